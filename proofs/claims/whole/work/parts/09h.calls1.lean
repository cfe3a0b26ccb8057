/-! THE CALLS, one by one: what the class answers and what the model answers. -/
/-- k = 0: it answers; else it throws; t: the classes that the law catches, in their order; w: the model's word for it -/
def AnsL (k : Int) (t : List Int) (w : Int) : Prop := (k = 0 ∧ w = 0) ∨ ∃ i : Nat, i < t.length ∧ k = t.getD i 0 ∧ w = (i : Int) + 1
theorem al_0 {t : List Int} {w : Int} (h : w = 0) : AnsL 0 t w := Or.inl ⟨rfl, h⟩
theorem al_1 {a w : Int} {t : List Int} (h : w = 1) : AnsL a (a :: t) w := Or.inr ⟨0, by simp, rfl, h⟩
theorem al_2 {a b w : Int} {t : List Int} (h : w = 2) : AnsL b (a :: b :: t) w := Or.inr ⟨1, by simp, rfl, h⟩
theorem al_3 {a b c w : Int} {t : List Int} (h : w = 3) : AnsL c (a :: b :: c :: t) w := Or.inr ⟨2, by simp, rfl, h⟩
def Same (R : Int × Int × Mem) (mr : Int × Mem) (t : List Int) : Prop := RelR R.2.2 mr.2 ∧ AnsL R.1 t (mr.2 26 0) ∧ (R.1 = 0 → R.2.1 = mr.1)
theorem RelR_q {C G C' : Mem} (h : RelR C G) (hs : SI C') (cf : ∀ r ∈ ([0, 8, 9, 10, 11, 12, 13, 15, 16, 17, 18, 19] : List Nat), C' r = C r) : RelR C' G := by
  have hx := h.2.2.2.2.2.2
  refine RelR_of h (by rw [cf 0 (by decide)]; exact h.1) hs (RH_of h.2.2.1 (cf 8 (by decide)) (cf 9 (by decide)) rfl rfl) (fun r hr => cf r ?_) (fun r hr => rfl) (RX_of hx (cf 17 (by decide)) (cf 18 (by decide)) (cf 19 (by decide)) rfl rfl rfl rfl rfl rfl)
  revert r; decide
theorem RelR_g {C G G' : Mem} (h : RelR C G) (gf : ∀ r ∈ ([0, 2, 3, 4, 5, 6, 13, 15, 17, 18, 19, 20, 21, 22, 25, 27, 28] : List Nat), G' r = G r) (g23 : 0 ≤ G' 23 0 ∧ G' 23 0 ≤ 1) : RelR C G' := by
  obtain ⟨hw, hs, hh, hN, hT, hL, x1, x2, x3, x4⟩ := h
  refine RelR_of ⟨hw, hs, hh, hN, hT, hL, x1, x2, x3, x4⟩ (by rw [gf 0 (by decide)]; exact hw) hs (RH_of hh rfl rfl (gf 2 (by decide)) (gf 13 (by decide))) (fun r hr => rfl) (fun r hr => gf r ?_) ?_
  · revert r; decide
  · unfold RX
    rw [gf 18 (by decide), gf 19 (by decide), gf 20 (by decide), gf 21 (by decide), gf 22 (by decide)]
    exact ⟨x1, x2, x3, g23⟩
theorem mm26 : ∀ r ∈ ([0, 2, 3, 4, 5, 6, 13, 15, 17, 18, 19, 20, 21, 22, 25, 27, 28] : List Nat), Nat.beq r 26 = false ∧ Nat.beq r 23 = false := by decide
theorem RelR_26 {C G : Mem} (h : RelR C G) (v : Int) : RelR C (msf G 26 v) := RelR_g h (fun r hr => msf_o (mm26 r hr).1) h.2.2.2.2.2.2.2.2.2
theorem RelR_done {C G : Mem} (h : RelR C G) (v : Int) : RelR C (fX9_done G v).2 := RelR_26 h 0
theorem RelR_fails {C G : Mem} (h : RelR C G) (n : Int) : RelR C (fX9_fails G n).2 := RelR_g h (fun r hr => fr_fX9_fails n (mm26 r hr).2 (mm26 r hr).1) ⟨(show (0 : Int) ≤ 0 by decide), (show (0 : Int) ≤ 1 by decide)⟩
theorem mmH : ∀ r ∈ ([0, 8, 9, 10, 11, 12, 13, 15, 16, 17, 18, 19] : List Nat), Nat.beq r 1 = false ∧ Nat.beq r 2 = false ∧ Nat.beq r 3 = false ∧ Nat.beq r 4 = false ∧ Nat.beq r 7 = false ∧ Nat.beq r 5 = false ∧ Nat.beq r 6 = false := by decide
theorem RelR_heard {C G : Mem} (h : RelR C G) (t : Int) : RelR (fX8_heard C t) G := RelR_q h (SI_heard (RW_C h.1) h.2.1 t) (fun r hr => by obtain ⟨a1, a2, a3, a4, a7, -⟩ := mmH r hr; exact fr_fX8_heard t a1 a2 a3 a4 a7)
theorem heard_S {C G : Mem} (h : RelR C G) {t : Int} (ht : 0 ≤ t ∧ t < 3) : HS (fX8_heard C t) G t := hear_S (RW_S h.1) (RW_G h.1) ht
theorem sm_d {C G C' : Mem} (h : RelR C' G) {r v : Int} (e : r = v) {t : List Int} : Same (0, r, C') (fX9_done G v) t := ⟨RelR_done h v, al_0 rfl, fun _ => e⟩
theorem sm_d2 {C' G : Mem} (h : RelR C' G) {r v : Int} (e : r = v) {t : List Int} : Same (0, r, C') ((fX9_done G v).1, (fX9_done G v).2) t := ⟨RelR_done h v, al_0 rfl, fun _ => e⟩
theorem sm_f1 {C' G : Mem} (h : RelR C' G) {r a : Int} {t : List Int} (ha : ¬ a = 0) : Same (a, r, C') ((fX9_fails G 1).1, (fX9_fails G 1).2) (a :: t) := ⟨RelR_fails h 1, al_1 rfl, fun q => absurd q ha⟩
theorem sm_f2 {C' G : Mem} (h : RelR C' G) {r a b : Int} {t : List Int} (ha : ¬ b = 0) : Same (b, r, C') ((fX9_fails G 2).1, (fX9_fails G 2).2) (a :: b :: t) := ⟨RelR_fails h 2, al_2 rfl, fun q => absurd q ha⟩
theorem sm_f3 {C' G : Mem} (h : RelR C' G) {r a b c : Int} {t : List Int} (ha : ¬ c = 0) : Same (c, r, C') ((fX9_fails G 3).1, (fX9_fails G 3).2) (a :: b :: c :: t) := ⟨RelR_fails h 3, al_3 rfl, fun q => absurd q ha⟩
theorem ck_0 {t : Int} (C : Mem) (h : fX9_isTable t = 0) : fX8_checkTable C t = 1 := by unfold fX8_checkTable; rw [tab_e, if_pos h]
theorem ck_1 {t : Int} (C : Mem) (h : ¬ fX9_isTable t = 0) : fX8_checkTable C t = 0 ∧ 0 ≤ t ∧ t < 3 := by
  have := dX9_isTable t
  unfold fX8_checkTable
  rw [tab_e, if_neg h]
  exact ⟨rfl, by omega, by omega⟩
theorem tabI (t : Int) : ¬ fX9_isTable t = 0 → 0 ≤ t ∧ t < 3 := fun h => by have := dX9_isTable t; omega
theorem chg {C G : Mem} {R : Int × Int × Mem} {mr : Int × Mem} {n1 n2 n3 : Int} {t : List Int} (h : RelR R.2.2 mr.2 ∧ AnsK R.1 n1 n2 n3 mr.2 ∧ (R.1 = 0 → R.2.1 = mr.1)) (ht : ∀ k : Int, AnsK k n1 n2 n3 mr.2 → AnsL k t (mr.2 26 0)) : Same (if R.1 = 0 then (0, R.2.1, R.2.2) else (R.1, 0, R.2.2)) (mr.1, mr.2) t := by
  by_cases hk : R.1 = 0
  · rw [if_pos hk]
    refine ⟨h.1, ?_, fun _ => h.2.2 hk⟩
    have := ht _ h.2.1
    rw [hk] at this
    exact this
  · rw [if_neg hk]
    exact ⟨h.1, ht _ h.2.1, fun q => absurd q hk⟩
theorem ak_012 {k : Int} {G : Mem} (h : AnsK k 0 1 2 G) : AnsL k [2, 3] (G 26 0) := by
  rcases h with ⟨rfl, h⟩ | ⟨-, h, -⟩ | ⟨rfl, -, h⟩ | ⟨rfl, h⟩
  · exact al_0 h
  · exact absurd rfl h
  · exact al_1 h
  · exact al_2 h
theorem ak_123 {k : Int} {G : Mem} (h : AnsK k 1 2 3 G) : AnsL k [1, 2, 3] (G 26 0) := by
  rcases h with ⟨rfl, h⟩ | ⟨rfl, -, h⟩ | ⟨rfl, -, h⟩ | ⟨rfl, h⟩
  · exact al_0 h
  · exact al_1 h
  · exact al_2 h
  · exact al_3 h
theorem ak_102 {k : Int} {G : Mem} (h : AnsK k 1 0 2 G) : AnsL k [1, 3] (G 26 0) := by
  rcases h with ⟨rfl, h⟩ | ⟨rfl, -, h⟩ | ⟨-, h, -⟩ | ⟨rfl, h⟩
  · exact al_0 h
  · exact al_1 h
  · exact absurd rfl h
  · exact al_2 h

theorem s_napkin {C G : Mem} (h : RelR C G) (a : Int) : Same (fX8_napkin C a) (fX9_napkin G a) [2, 3] := by
  have hw : RW (C 0) (fX9_looksBack G 0) := by rw [lb_0]; exact h.1
  have q := change_R h (co := 0) (a := a) (b := 0) (d := 0) (n1 := 0) (n2 := 1) (n3 := 2) (by decide) (fX9_comes (fX9_looksBack G) a) (fun N hN => by
    unfold fX5_judge fX5_carryOut
    rw [if_pos (by decide), if_pos (by decide)]
    exact op_new hw hN a)
  unfold fX8_napkin fX9_napkin
  exact chg (C := C) (G := G) q (fun k => ak_012)
theorem s_fold {C G : Mem} (h : RelR C G) (a b : Int) : Same (fX8_fold C a b) (fX9_fold G a b) [1, 2, 3] := by
  have hw : RW (C 0) (fX9_looksBack G 0) := by rw [lb_0]; exact h.1
  have q := change_R h (co := 1) (a := a) (b := b) (d := 0) (n1 := 1) (n2 := 2) (n3 := 3) (by decide) (fX9_folds (fX9_looksBack G) a b) (fun N hN => by
    unfold fX5_judge fX5_carryOut
    rw [if_neg (by decide), if_pos (by decide), if_neg (by decide), if_pos (by decide)]
    exact op_fold hw hN a b)
  unfold fX8_fold fX9_fold
  exact chg (C := C) (G := G) q (fun k => ak_123)
theorem s_unfold {C G : Mem} (h : RelR C G) (a : Int) : Same (fX8_unfold C a) (fX9_unfold G a) [1, 3] := by
  have hw : RW (C 0) (fX9_looksBack G 0) := by rw [lb_0]; exact h.1
  have q := change_R h (co := 2) (a := a) (b := 0) (d := 0) (n1 := 1) (n2 := 0) (n3 := 2) (by decide) (fX9_unfolds (fX9_looksBack G) a) (fun N hN => by
    unfold fX5_judge fX5_carryOut
    rw [if_neg (by decide), if_neg (by decide), if_pos (by decide), if_neg (by decide), if_neg (by decide), if_pos (by decide)]
    exact op_open hw hN a)
  unfold fX8_unfold fX9_unfold
  exact chg (C := C) (G := G) q (fun k => ak_102)
theorem s_lay {C G : Mem} (h : RelR C G) (a b : Int) : Same (fX8_lay C a b) (fX9_lay G a b) [1, 3] := by
  have hw : RW (C 0) (fX9_looksBack G 0) := by rw [lb_0]; exact h.1
  have q := change_R h (co := 6) (a := a) (b := b) (d := 0) (n1 := 1) (n2 := 0) (n3 := 2) (by decide) (fX9_lays (fX9_looksBack G) a b) (fun N hN => by
    unfold fX5_judge fX5_carryOut
    rw [if_neg (by decide), if_neg (by decide), if_neg (by decide), if_pos (by decide), if_neg (by decide), if_neg (by decide), if_neg (by decide), if_pos (by decide)]
    exact op_lay hw hN a b)
  unfold fX8_lay fX9_lay
  exact chg (C := C) (G := G) q (fun k => ak_102)
theorem s_take {C G : Mem} (h : RelR C G) (a : Int) : Same (fX8_take C a) (fX9_take G a) [1, 3] := by
  have hw : RW (C 0) (fX9_looksBack G 0) := by rw [lb_0]; exact h.1
  have q := change_R h (co := 3) (a := a) (b := 0) (d := 0) (n1 := 1) (n2 := 0) (n3 := 2) (by decide) (fX9_takes (fX9_looksBack G) a) (fun N hN => by
    unfold fX5_judge fX5_carryOut
    rw [if_neg (by decide), if_neg (by decide), if_neg (by decide), if_neg (by decide), if_pos (by decide), if_neg (by decide), if_neg (by decide), if_neg (by decide), if_neg (by decide), if_pos (by decide)]
    exact op_take hw hN a)
  unfold fX8_take fX9_take
  exact chg (C := C) (G := G) q (fun k => ak_102)
theorem s_move {C G : Mem} (h : RelR C G) (a b d : Int) : Same (fX8_move C a b d) (fX9_move G a b d) [1, 3] := by
  have hw : RW (C 0) (fX9_looksBack G 0) := by rw [lb_0]; exact h.1
  have q := change_R h (co := 7) (a := a) (b := b) (d := d) (n1 := 1) (n2 := 0) (n3 := 2) (by decide) (fX9_moves (fX9_looksBack G) a b d) (fun N hN => by
    unfold fX5_judge fX5_carryOut
    rw [if_neg (by decide), if_neg (by decide), if_neg (by decide), if_neg (by decide), if_neg (by decide), if_pos (by decide), if_neg (by decide), if_neg (by decide), if_neg (by decide), if_neg (by decide), if_neg (by decide), if_pos (by decide)]
    exact op_move hw hN a b d)
  unfold fX8_move fX9_move
  exact chg (C := C) (G := G) q (fun k => ak_102)
theorem s_stain {C G : Mem} (h : RelR C G) (a b : Int) : Same (fX8_stain C a b) (fX9_stain G a b) [1, 2, 3] := by
  have hw : RW (C 0) (fX9_looksBack G 0) := by rw [lb_0]; exact h.1
  have q := change_R h (co := 8) (a := a) (b := b) (d := 0) (n1 := 1) (n2 := 2) (n3 := 3) (by decide) (fX9_stains (fX9_looksBack G) a b) (fun N hN => by
    unfold fX5_judge fX5_carryOut
    rw [if_neg (by decide), if_neg (by decide), if_neg (by decide), if_neg (by decide), if_neg (by decide), if_neg (by decide), if_pos (by decide), if_neg (by decide), if_neg (by decide), if_neg (by decide), if_neg (by decide), if_neg (by decide), if_neg (by decide), if_pos (by decide)]
    exact op_stain hw hN a b)
  unfold fX8_stain fX9_stain
  exact chg (C := C) (G := G) q (fun k => ak_123)
theorem s_wash {C G : Mem} (h : RelR C G) (a : Int) : Same (fX8_wash C a) (fX9_wash G a) [1, 3] := by
  have hw : RW (C 0) (fX9_looksBack G 0) := by rw [lb_0]; exact h.1
  have q := change_R h (co := 4) (a := a) (b := 0) (d := 0) (n1 := 1) (n2 := 0) (n3 := 2) (by decide) (fX9_washes (fX9_looksBack G) a) (fun N hN => by
    unfold fX5_judge fX5_carryOut
    rw [if_neg (by decide), if_neg (by decide), if_neg (by decide), if_neg (by decide), if_neg (by decide), if_neg (by decide), if_neg (by decide), if_pos (by decide), if_neg (by decide), if_neg (by decide), if_neg (by decide), if_neg (by decide), if_neg (by decide), if_neg (by decide), if_neg (by decide), if_pos (by decide)]
    exact op_wash hw hN a)
  unfold fX8_wash fX9_wash
  exact chg (C := C) (G := G) q (fun k => ak_102)
theorem s_host {C G : Mem} (h : RelR C G) (a : Int) : Same (fX8_host C a) (fX9_host G a) [1, 3] := by
  have hw : RW (C 0) (fX9_looksBack G 0) := by rw [lb_0]; exact h.1
  have q := change_R h (co := 5) (a := a) (b := 0) (d := 0) (n1 := 1) (n2 := 0) (n3 := 2) (by decide) (fX9_hosts (fX9_looksBack G) a) (fun N hN => by
    unfold fX5_judge fX5_carryOut
    rw [if_neg (by decide), if_neg (by decide), if_neg (by decide), if_neg (by decide), if_neg (by decide), if_neg (by decide), if_neg (by decide), if_neg (by decide), if_neg (by decide), if_neg (by decide), if_neg (by decide), if_neg (by decide), if_neg (by decide), if_neg (by decide), if_neg (by decide), if_neg (by decide)]
    exact op_read hw hN a)
  unfold fX8_host fX9_host
  exact chg (C := C) (G := G) q (fun k => ak_102)
/-! what a table says -/
theorem s_tab {C G : Mem} (h : RelR C G) (t fc mv : Int) (hq : 0 ≤ t ∧ t < 3 → fc = mv) : Same (if fX8_checkTable C t = 0 then (0, fc, fX8_heard C t) else (fX8_checkTable C t, 0, C)) (if fX9_isTable t = 0 then ((fX9_fails G 1).1, (fX9_fails G 1).2) else ((fX9_done G mv).1, (fX9_done G mv).2)) [1] := by
  by_cases hc : fX9_isTable t = 0
  · rw [ck_0 C hc, if_neg (by decide), if_pos hc]
    exact sm_f1 h (by decide)
  · rw [(ck_1 C hc).1, if_pos rfl, if_neg hc]
    exact sm_d2 (RelR_heard h t) (hq (tabI t hc))
theorem s_wrong {C G : Mem} (h : RelR C G) (t : Int) : Same (fX8_wrong C t) (fX9_wrong G t) [1] := s_tab h t _ _ (fun ht => err_e (heard_S h ht))
theorem s_wrongAgain {C G : Mem} (h : RelR C G) (t : Int) : Same (fX8_wrongAgain C t) (fX9_wrongAgain G t) [1] := s_tab h t _ _ (fun ht => ebp_e (heard_S h ht))
theorem s_phrases {C G : Mem} (h : RelR C G) (t : Int) : Same (fX8_phrases C t) (fX9_phrases G t) [1] := s_tab h t _ _ (fun ht => phr_e (RW_G h.1) ht (heard_S h ht))
theorem s_doubt {C G : Mem} (h : RelR C G) (t : Int) : Same (fX8_doubt C t) (fX9_doubt G t) [1] := s_tab h t _ _ (fun ht => dbt_e (heard_S h ht))
theorem s_doubtAgain {C G : Mem} (h : RelR C G) (t : Int) : Same (fX8_doubtAgain C t) (fX9_doubtAgain G t) [1] := s_tab h t _ _ (fun ht => dbf_e (heard_S h ht))
theorem s_isRight {C G : Mem} (h : RelR C G) (t : Int) : Same (fX8_isRight C t) (fX9_isRight G t) [1] := by
  unfold fX8_isRight fX9_isRight
  by_cases hc : fX9_isTable t = 0
  · rw [ck_0 C hc, if_neg (by decide), if_pos hc]
    exact ⟨RelR_26 h 1, al_1 rfl, fun q => absurd (show (1 : Int) = 0 from q) (by decide)⟩
  · have ht := tabI t hc
    have e := whole_e (heard_S h ht)
    rw [(ck_1 C hc).1, if_pos rfl, if_neg hc, e]
    have b := bX9_rightly G t
    by_cases hr : fX9_rightly G t = 0
    · rw [if_pos hr, hr]
      exact ⟨RelR_26 (RelR_heard h t) 0, al_0 rfl, fun _ => rfl⟩
    · rw [if_neg hr, show fX9_rightly G t = 1 by omega]
      exact ⟨RelR_26 (RelR_heard h t) 0, al_0 rfl, fun _ => rfl⟩
theorem s_next {C G : Mem} (h : RelR C G) (t : Int) : Same (fX8_next C t) (fX9_next G t) [1] := by
  unfold fX8_next fX9_next
  by_cases hc : fX9_isTable t = 0
  · rw [ck_0 C hc, if_neg (by decide), if_pos hc]
    exact sm_f1 h (by decide)
  · rw [(ck_1 C hc).1, if_pos rfl, if_neg hc, nx_e (heard_S h (tabI t hc))]
    exact sm_d2 (RelR_heard h t) rfl
theorem s_tableOf {C G : Mem} (h : RelR C G) (t what : Int) : Same (fX8_tableOf C t what) (fX9_tableOf G t what) [1, 2] := by
  unfold fX8_tableOf fX9_tableOf
  by_cases hc : fX9_isTable t = 0
  · rw [ck_0 C hc, if_neg (by decide), if_pos hc]
    exact sm_f1 h (by decide)
  · have ht := tabI t hc
    have q := SR_t (RW_S h.1) t ht.1 ht.2
    have hs := heard_S h ht
    rw [(ck_1 C hc).1, if_pos rfl, if_neg hc]
    by_cases h0 : what = 0
    · rw [if_pos h0, if_pos h0]
      exact sm_d2 h (by rw [laid_e ht]; exact q.1)
    rw [if_neg h0, if_neg h0]
    by_cases h1 : what = 1
    · rw [if_pos h1, if_pos h1]
      exact sm_d2 (RelR_heard h t) hs.1
    rw [if_neg h1, if_neg h1]
    by_cases h2 : what = 2
    · rw [if_pos h2, if_pos h2]
      exact sm_d2 (RelR_heard h t) (cnt_e (RW_G h.1) ht hs (by decide))
    rw [if_neg h2, if_neg h2]
    by_cases h3 : what = 3
    · rw [if_pos h3, if_pos h3]
      exact sm_d2 (RelR_heard h t) (cnt_e (RW_G h.1) ht hs (by decide))
    rw [if_neg h3, if_neg h3]
    by_cases h4 : what = 4
    · rw [if_pos h4, if_pos h4]
      exact sm_d2 h (by unfold fX6_readingsOf; rw [ofT_e ht]; exact q.2.1)
    rw [if_neg h4, if_neg h4]
    by_cases h5 : what = 5
    · rw [if_pos h5, if_pos h5]
      exact sm_d2 h (by unfold fX6_puzzlesOf; rw [ofT_e ht]; exact q.2.2)
    rw [if_neg h5, if_neg h5]
    exact sm_f2 h (by decide)
theorem s_seat {C G : Mem} (h : RelR C G) (t p : Int) : Same ((fX8_seat C t p).1, (fX8_seat C t p).2, C) (fX9_seat G t p) [1, 4] := by
  unfold fX8_seat fX9_seat
  by_cases hc : fX9_isTable t = 0
  · rw [ck_0 C hc, if_neg (by decide), if_pos hc]
    exact sm_f1 h (by decide)
  · have ht := tabI t hc
    rw [(ck_1 C hc).1, if_pos rfl, if_neg hc, plc_e (RW_S h.1) ht]
    have d := dX9_in p 0 (G 0 (55 + t) - 1)
    by_cases hp : fX9_in p 0 (G 0 (55 + t) - 1) = 0
    · rw [if_pos hp, if_pos hp]
      exact sm_f2 h (by decide)
    · rw [if_neg hp, if_neg hp]
      have l := RW_6 h.1 t ht.1 ht.2
      exact sm_d2 h (by rw [seated_e ht (by omega)]; exact (SR_s (RW_S h.1) t p ht.1 ht.2 (by omega) (by omega)).1)
theorem s_said {C G : Mem} (h : RelR C G) (t n : Int) : Same (fX8_said C t n) (fX9_said G t n) [1, 4] := by
  unfold fX8_said fX9_said
  by_cases hc : fX9_isTable t = 0
  · rw [ck_0 C hc, if_neg (by decide), if_pos hc]
    exact sm_f1 h (by decide)
  · have ht := tabI t hc
    have hs := heard_S h ht
    rw [(ck_1 C hc).1, if_pos rfl, if_neg hc]
    have d := dX9_in n 0 (fX9_countOf G t 0 - 1)
    by_cases hp : fX9_in n 0 (fX9_countOf G t 0 - 1) = 0
    · rw [if_pos hp, if_pos (nap_out (by rw [hs.1]; omega))]
      exact sm_f2 (RelR_heard h t) (by decide)
    · have q := hs.2.2 n (by omega) (by omega)
      rw [if_neg hp, q.2.1, if_neg (by omega)]
      exact sm_d2 (RelR_heard h t) rfl
theorem s_napkinOf {C G : Mem} (h : RelR C G) (n what : Int) : Same ((fX8_napkinOf C n what).1, (fX8_napkinOf C n what).2, C) (fX9_napkinOf G n what) [1, 2] := by
  unfold fX8_napkinOf fX9_napkinOf
  have d := dX9_isNapkin (RW_G h.1) n
  rw [nap_e (RW_S h.1)]
  by_cases hc : fX9_isNapkin G n = 0
  · rw [if_pos hc, if_pos hc]
    exact sm_f1 h (by decide)
  · have q := SR_j (RW_S h.1) n (by omega) (by omega)
    have ofN : ∀ f : Int, fX6_ofNapkin C f n = C 0 (f + n) := fun f => ofN_e (by omega) (by omega)
    have se := seat_e (RW_C h.1) (RW_G h.1) (RW_S h.1) n
    rw [if_neg hc, if_neg hc]
    by_cases h0 : what = 0
    · rw [if_pos h0, if_pos h0]
      exact sm_d2 h (by unfold fX6_colourOf; rw [ofN, Int.zero_add]; exact q.1)
    rw [if_neg h0, if_neg h0]
    by_cases h1 : what = 1
    · rw [if_pos h1, if_pos h1]
      exact sm_d2 h (by unfold fX6_foldOf; rw [ofN]; exact q.2.1)
    rw [if_neg h1, if_neg h1]
    by_cases h2 : what = 2
    · rw [if_pos h2, if_pos h2]
      exact sm_d2 h (by unfold fX6_creasesOf; rw [ofN]; exact q.2.2.1)
    rw [if_neg h2, if_neg h2]
    by_cases h3 : what = 3
    · rw [if_pos h3, if_pos h3]
      exact sm_d2 h (by unfold fX6_stainsOf; rw [ofN]; exact q.2.2.2.1)
    rw [if_neg h3, if_neg h3]
    by_cases h4 : what = 4
    · rw [if_pos h4, if_pos h4]
      rcases se with ⟨s1, s2, s3, -⟩ | ⟨s1, s2, s3, s4, s5, s6, -⟩
      · rw [if_pos s1, s2]
        exact sm_d2 h rfl
      · rw [if_neg (by omega), s5]
        exact sm_d2 h (by omega)
    rw [if_neg h4, if_neg h4]
    by_cases h5 : what = 5
    · rw [if_pos h5, if_pos h5]
      rcases se with ⟨s1, s2, s3, -⟩ | ⟨s1, s2, s3, s4, s5, s6, -⟩
      · rw [if_pos s1, s3]
        exact sm_d2 h rfl
      · rw [if_neg (by omega), s5]
        exact sm_d2 h (by omega)
    rw [if_neg h5, if_neg h5]
    by_cases h6 : what = 6
    · rw [if_pos h6, if_pos h6]
      exact sm_d2 h (by unfold fX6_foldingsOf; rw [ofN]; exact q.2.2.2.2)
    rw [if_neg h6, if_neg h6]
    exact sm_f2 h (by decide)
theorem s_phraseOf {C G : Mem} (h : RelR C G) (t ph what : Int) : Same (fX8_phraseOf C t ph what) (fX9_phraseOf G t ph what) [1, 4, 2] := by
  unfold fX8_phraseOf fX9_phraseOf
  by_cases hc : fX9_isTable t = 0
  · rw [ck_0 C hc, if_neg (by decide), if_pos hc]
    exact sm_f1 h (by decide)
  · have ht := tabI t hc
    have hs := heard_S h ht
    have hG := RW_G h.1
    have hr := RelR_heard h t
    rw [(ck_1 C hc).1, if_pos rfl, if_neg hc, phr_e hG ht hs]
    have d := dX9_in ph 0 (fX9_phrasesOf G t - 1)
    by_cases hp : fX9_in ph 0 (fX9_phrasesOf G t - 1) = 0
    · rw [if_pos hp]
      by_cases h0 : ph < 0
      · rw [if_pos h0]
        exact sm_f2 hr (by decide)
      · rw [if_neg h0, if_neg (by omega)]
        exact sm_f2 hr (by decide)
    · have hp2 : 0 ≤ ph ∧ ph < fX9_phrasesOf G t := by omega
      obtain ⟨b1, b2, b3, b4⟩ := begin_spec hG ht ph hp2
      have es := start_e hG ht hs hp2
      have em := moods_e hG ht hs b1 b3
      obtain ⟨u1, u2⟩ := subj_spec hG ht _ b1 b3
      have gn := g_size hG ht
      rw [if_neg hp, if_neg (by omega), if_pos hp2.2, es, em]
      generalize fX9_beginOf G t ph = b at *
      generalize fX9_subjectsFrom G t b = s at *
      by_cases h0 : what = 0
      · rw [if_pos h0, if_pos h0]
        exact sm_d2 hr (by omega)
      rw [if_neg h0, if_neg h0]
      by_cases h1 : what = 1
      · rw [if_pos h1, if_pos h1]
        exact sm_d2 hr (hs.2.2 (b + s) (by omega) (by omega)).2.1
      rw [if_neg h1, if_neg h1]
      by_cases h2 : what = 2
      · rw [if_pos h2, if_pos h2]
        unfold fX4_isBoatAt fX9_objectAt
        by_cases hl : fX9_countOf G t 0 ≤ b + s + 1
        · rw [if_pos hl, fold_out (by rw [hs.1]; exact hl), if_pos (show (if (0 : Int) = 3 then (1 : Int) else 0) = 0 from rfl)]
          exact sm_d2 hr rfl
        · have q := hs.2.2 (b + s + 1) (by omega) (by omega)
          rw [if_neg hl, q.1]
          by_cases hb : fX9_foldAt G t (b + s + 1) = 3
          · rw [if_pos hb, if_neg (by decide), if_pos hb]
            exact sm_d2 hr q.2.1
          · rw [if_neg hb, if_pos rfl, if_neg hb]
            exact sm_d2 hr rfl
      rw [if_neg h2, if_neg h2]
      by_cases h3 : what = 3
      · rw [if_pos h3, if_pos h3, agr_e hG ht hs b1 u1 (by omega)]
        by_cases ha : fX9_doAgree G t b s = 0
        · rw [if_pos ha, if_pos ha]
          exact sm_d2 hr rfl
        · rw [if_neg ha, if_neg ha]
          exact sm_d2 hr rfl
      rw [if_neg h3, if_neg h3]
      exact sm_f3 hr (by decide)
theorem s_fewest {C G : Mem} (h : RelR C G) (t : Int) : Same (fX8_fewest C t) (fX9_fewest G t) [1, 4] := by
  unfold fX8_fewest fX9_fewest
  by_cases hc : fX9_isTable t = 0
  · rw [ck_0 C hc, if_neg (by decide), if_pos hc]
    exact sm_f1 h (by decide)
  · rw [(ck_1 C hc).1, if_pos rfl, if_neg hc, few_e (heard_S h (tabI t hc))]
    by_cases hf : fX9_fewestOf G t = -1
    · rw [if_pos hf, if_pos hf]
      exact sm_f2 (RelR_heard h t) (by decide)
    · rw [if_neg hf, if_neg hf]
      exact sm_d2 (RelR_heard h t) rfl
theorem s_fewestAgain {C G : Mem} (h : RelR C G) (t : Int) : Same (fX8_fewestAgain C t) (fX9_fewestAgain G t) [1, 4] := by
  unfold fX8_fewestAgain fX9_fewestAgain fX9_fewest
  by_cases hc : fX9_isTable t = 0
  · rw [ck_0 C hc, if_neg (by decide), if_pos hc]
    exact sm_f1 h (by decide)
  · have pf : ∀ r : Nat, Nat.beq r 5 = false → Nat.beq r 6 = false → (fX4_fewestByPoints (fX8_heard C t)).2 r = fX8_heard C t r := fun r a b => fr_fX4_fewestByPoints a b
    have hr := RelR_heard h t
    have hr2 : RelR (fX4_fewestByPoints (fX8_heard C t)).2 G := RelR_q hr (SI_of (pf 1 rfl rfl) (pf 2 rfl rfl) (pf 3 rfl rfl) (pf 4 rfl rfl) (pf 7 rfl rfl) hr.2.1) (fun r hm => by obtain ⟨-, -, -, -, -, a5, a6⟩ := mmH r hm; exact pf r a5 a6)
    rw [(ck_1 C hc).1, if_pos rfl, if_neg hc, pts_e (RW_G h.1) (tabI t hc) (heard_S h (tabI t hc))]
    by_cases hf : fX9_fewestOf G t = -1
    · rw [if_pos hf, if_pos hf]
      exact sm_f2 hr2 (by decide)
    · rw [if_neg hf, if_neg hf]
      exact sm_d2 hr2 rfl
theorem su_d : ∀ n : Fin 7, ∀ d : Fin 55, n.val ≠ 0 → FP.fdiv (FP.fsub (FP.fmul (1120403456) (FP.i2f (iI (n.val : Int)))) (FP.fmul (1092616192) (FP.i2f (iI (d.val : Int))))) (FP.i2f (iI (n.val : Int))) = FP.fdiv (FP.i2f (iI (((100) * (n.val : Int)) - ((10) * (d.val : Int))))) (FP.i2f (iI (n.val : Int))) := by decide +kernel
theorem s_sure {C G : Mem} (h : RelR C G) (t : Int) : Same (fX8_sure C t) (fX9_sure G t) [1, 6] := by
  unfold fX8_sure fX9_sure
  by_cases hc : fX9_isTable t = 0
  · rw [ck_0 C hc, if_neg (by decide), if_pos hc]
    exact sm_f1 h (by decide)
  · have ht := tabI t hc
    have hs := heard_S h ht
    have hr := RelR_heard h t
    have e1 : fX4_size (fX8_heard C t) = fX9_countOf G t 0 := hs.1
    have dr := rg_X4_doubtByNapkins (SI_heard (RW_C h.1) h.2.1 t)
    rw [dbt_e hs] at dr
    rw [(ck_1 C hc).1, if_pos rfl, if_neg hc, e1, dbt_e hs]
    have n := hs.2.1
    by_cases hf : fX9_countOf G t 0 = 0
    · rw [if_pos hf, if_pos hf]
      exact sm_f2 hr (by decide)
    · rw [if_neg hf, if_neg hf]
      refine sm_d2 hr ?_
      obtain ⟨a, ea⟩ := Int.eq_ofNat_of_zero_le n.1
      obtain ⟨b, eb⟩ := Int.eq_ofNat_of_zero_le dr.1
      rw [ea, eb]
      rw [ea] at n hf
      rw [eb] at dr
      have q := su_d ⟨a, by omega⟩ ⟨b, by omega⟩ (by show a ≠ 0; omega)
      exact congrArg zf2i q
