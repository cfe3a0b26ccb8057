/-! WHAT AN OBJECT KEEPS, and answers over known cells (written by mk11e.py). -/
def OI (M : Mem) : Prop := CI M ∧ SI M ∧ TI M ∧ HN M ∧ LN M
theorem OI_0 : OI M0c := ⟨KI_0.1, KI_0.2.1, KI_0.2.2.1, KI_0.2.2.2, by unfold LN M0c; simp⟩
/-- known cells: a row of eighty -/
def zM (T : Int → Int) : Mem := fun r j => cond (Nat.beq r 0) (T j) 0
def ZI (T : Int → Int) (M : Mem) : Prop := OI M ∧ M 11 0 = 0 ∧ REq M (zM T)
theorem SI_same {M N : Mem} (h : ∀ r : Nat, r = 1 ∨ r = 2 ∨ r = 3 ∨ r = 4 ∨ r = 7 → N r = M r) (q : SI M) : SI N := SI_of (h 1 (by decide)) (h 2 (by decide)) (h 3 (by decide)) (h 4 (by decide)) (h 7 (by decide)) q
/-- a change of cells that nothing here rests on -/
theorem OI_fr {M N : Mem} (h : OI M) (hN : ∀ r : Nat, r ≠ 5 → r ≠ 6 → r ≠ 8 → r ≠ 14 → r ≠ 15 → r ≠ 16 → r ≠ 17 → r ≠ 18 → r ≠ 19 → N r = M r) : OI N :=
  ⟨CI_of0 (hN 0 (by decide) (by decide) (by decide) (by decide) (by decide) (by decide) (by decide) (by decide) (by decide)) h.1, SI_same (fun r hr => by rcases hr with rfl | rfl | rfl | rfl | rfl <;> exact hN _ (by decide) (by decide) (by decide) (by decide) (by decide) (by decide) (by decide) (by decide) (by decide)) h.2.1, TI_of (hN 10 (by decide) (by decide) (by decide) (by decide) (by decide) (by decide) (by decide) (by decide) (by decide)) (hN 11 (by decide) (by decide) (by decide) (by decide) (by decide) (by decide) (by decide) (by decide) (by decide)) h.2.2.1, HN_of (hN 9 (by decide) (by decide) (by decide) (by decide) (by decide) (by decide) (by decide) (by decide) (by decide)) h.2.2.2.1, LN_of (hN 12 (by decide) (by decide) (by decide) (by decide) (by decide) (by decide) (by decide) (by decide) (by decide)) (hN 13 (by decide) (by decide) (by decide) (by decide) (by decide) (by decide) (by decide) (by decide) (by decide)) h.2.2.2.2⟩
theorem OI_S {M N : Mem} (h : OI M) (hS : SameS M N) (hQ : SI N) : OI N := ⟨CI_S hS h.1, hQ, TI_S hS h.2.2.1, HN_of (hS 9 (by decide) (by decide) (by decide) (by decide) (by decide)) h.2.2.2.1, LN_of (hS 12 (by decide) (by decide) (by decide) (by decide) (by decide)) (hS 13 (by decide) (by decide) (by decide) (by decide) (by decide)) h.2.2.2.2⟩
theorem heard_S (M : Mem) (t : Int) : SameS M (fX8_heard M t) := fun r h1 h2 h3 h4 h7 => fr_fX8_heard t (beq_f h1) (beq_f h2) (beq_f h3) (beq_f h4) (beq_f h7)
theorem ZI_S {T : Int → Int} {M N : Mem} (h : ZI T M) (hS : SameS M N) (hQ : SI N) : ZI T N := ⟨OI_S h.1 hS hQ, by rw [hS 11 (by decide) (by decide) (by decide) (by decide) (by decide)]; exact h.2.1, h.2.2.of2 (hS 0 (by decide) (by decide) (by decide) (by decide) (by decide)) rfl⟩
theorem triple {a b : Int} {M : Mem} {x : Int × Int × Mem} (h1 : x.1 = a) (h2 : x.2.1 = b) (h3 : x.2.2 = M) : x = (a, b, M) := by
  obtain ⟨x1, x2, x3⟩ := x
  cases h1; cases h2; cases h3; rfl
theorem SI_wrong' {M : Mem} (hC : CI M) (hQ : SI M) (t : Int) : SI (fX8_wrong M t).2.2 := by
  unfold fX8_wrong
  (repeat' split) <;> first | exact hQ | exact SI_heard hC hQ t
theorem zq_wrong {T : Int → Int} {M : Mem} (h : ZI T M) (t : Int) {v : Int} (e : (fX8_wrong (zM T) t).1 = 0 ∧ (fX8_wrong (zM T) t).2.1 = v) : ∃ N : Mem, fX8_wrong M t = (0, v, N) ∧ ZI T N ∧ (SameS M N) := by
  have q := q_wrong h.2.2 t
  have s : SameS M (fX8_wrong M t).2.2 := fun r h1 h2 h3 h4 h7 => fr_fX8_wrong t (beq_f h1) (beq_f h2) (beq_f h3) (beq_f h4) (beq_f h7)
  exact ⟨_, triple (q.1.trans e.1) (q.2.trans e.2) rfl, ZI_S h s (SI_wrong' h.1.1 h.1.2.1 t), s⟩
theorem SI_wrongAgain' {M : Mem} (hC : CI M) (hQ : SI M) (t : Int) : SI (fX8_wrongAgain M t).2.2 := by
  unfold fX8_wrongAgain
  (repeat' split) <;> first | exact hQ | exact SI_heard hC hQ t
theorem zq_wrongAgain {T : Int → Int} {M : Mem} (h : ZI T M) (t : Int) {v : Int} (e : (fX8_wrongAgain (zM T) t).1 = 0 ∧ (fX8_wrongAgain (zM T) t).2.1 = v) : ∃ N : Mem, fX8_wrongAgain M t = (0, v, N) ∧ ZI T N ∧ (SameS M N) := by
  have q := q_wrongAgain h.2.2 t
  have s : SameS M (fX8_wrongAgain M t).2.2 := fun r h1 h2 h3 h4 h7 => fr_fX8_wrongAgain t (beq_f h1) (beq_f h2) (beq_f h3) (beq_f h4) (beq_f h7)
  exact ⟨_, triple (q.1.trans e.1) (q.2.trans e.2) rfl, ZI_S h s (SI_wrongAgain' h.1.1 h.1.2.1 t), s⟩
theorem SI_isRight' {M : Mem} (hC : CI M) (hQ : SI M) (t : Int) : SI (fX8_isRight M t).2.2 := by
  unfold fX8_isRight
  (repeat' split) <;> first | exact hQ | exact SI_heard hC hQ t
theorem zq_isRight {T : Int → Int} {M : Mem} (h : ZI T M) (t : Int) {v : Int} (e : (fX8_isRight (zM T) t).1 = 0 ∧ (fX8_isRight (zM T) t).2.1 = v) : ∃ N : Mem, fX8_isRight M t = (0, v, N) ∧ ZI T N ∧ (SameS M N) := by
  have q := q_isRight h.2.2 t
  have s : SameS M (fX8_isRight M t).2.2 := fun r h1 h2 h3 h4 h7 => fr_fX8_isRight t (beq_f h1) (beq_f h2) (beq_f h3) (beq_f h4) (beq_f h7)
  exact ⟨_, triple (q.1.trans e.1) (q.2.trans e.2) rfl, ZI_S h s (SI_isRight' h.1.1 h.1.2.1 t), s⟩
theorem SI_phrases' {M : Mem} (hC : CI M) (hQ : SI M) (t : Int) : SI (fX8_phrases M t).2.2 := by
  unfold fX8_phrases
  (repeat' split) <;> first | exact hQ | exact SI_heard hC hQ t
theorem zq_phrases {T : Int → Int} {M : Mem} (h : ZI T M) (t : Int) {v : Int} (e : (fX8_phrases (zM T) t).1 = 0 ∧ (fX8_phrases (zM T) t).2.1 = v) : ∃ N : Mem, fX8_phrases M t = (0, v, N) ∧ ZI T N ∧ (SameS M N) := by
  have q := q_phrases h.2.2 t
  have s : SameS M (fX8_phrases M t).2.2 := fun r h1 h2 h3 h4 h7 => fr_fX8_phrases t (beq_f h1) (beq_f h2) (beq_f h3) (beq_f h4) (beq_f h7)
  exact ⟨_, triple (q.1.trans e.1) (q.2.trans e.2) rfl, ZI_S h s (SI_phrases' h.1.1 h.1.2.1 t), s⟩
theorem SI_next' {M : Mem} (hC : CI M) (hQ : SI M) (t : Int) : SI (fX8_next M t).2.2 := by
  unfold fX8_next
  (repeat' split) <;> first | exact hQ | exact SI_heard hC hQ t
theorem zq_next {T : Int → Int} {M : Mem} (h : ZI T M) (t : Int) {v : Int} (e : (fX8_next (zM T) t).1 = 0 ∧ (fX8_next (zM T) t).2.1 = v) : ∃ N : Mem, fX8_next M t = (0, v, N) ∧ ZI T N ∧ (SameS M N) := by
  have q := q_next h.2.2 t
  have s : SameS M (fX8_next M t).2.2 := fun r h1 h2 h3 h4 h7 => fr_fX8_next t (beq_f h1) (beq_f h2) (beq_f h3) (beq_f h4) (beq_f h7)
  exact ⟨_, triple (q.1.trans e.1) (q.2.trans e.2) rfl, ZI_S h s (SI_next' h.1.1 h.1.2.1 t), s⟩
theorem SI_doubt' {M : Mem} (hC : CI M) (hQ : SI M) (t : Int) : SI (fX8_doubt M t).2.2 := by
  unfold fX8_doubt
  (repeat' split) <;> first | exact hQ | exact SI_heard hC hQ t
theorem zq_doubt {T : Int → Int} {M : Mem} (h : ZI T M) (t : Int) {v : Int} (e : (fX8_doubt (zM T) t).1 = 0 ∧ (fX8_doubt (zM T) t).2.1 = v) : ∃ N : Mem, fX8_doubt M t = (0, v, N) ∧ ZI T N ∧ (SameS M N) := by
  have q := q_doubt h.2.2 t
  have s : SameS M (fX8_doubt M t).2.2 := fun r h1 h2 h3 h4 h7 => fr_fX8_doubt t (beq_f h1) (beq_f h2) (beq_f h3) (beq_f h4) (beq_f h7)
  exact ⟨_, triple (q.1.trans e.1) (q.2.trans e.2) rfl, ZI_S h s (SI_doubt' h.1.1 h.1.2.1 t), s⟩
theorem SI_fewest' {M : Mem} (hC : CI M) (hQ : SI M) (t : Int) : SI (fX8_fewest M t).2.2 := by
  unfold fX8_fewest
  (repeat' split) <;> first | exact hQ | exact SI_heard hC hQ t
theorem zq_fewest {T : Int → Int} {M : Mem} (h : ZI T M) (t : Int) {v : Int} (e : (fX8_fewest (zM T) t).1 = 0 ∧ (fX8_fewest (zM T) t).2.1 = v) : ∃ N : Mem, fX8_fewest M t = (0, v, N) ∧ ZI T N ∧ (SameS M N) := by
  have q := q_fewest h.2.2 t
  have s : SameS M (fX8_fewest M t).2.2 := fun r h1 h2 h3 h4 h7 => fr_fX8_fewest t (beq_f h1) (beq_f h2) (beq_f h3) (beq_f h4) (beq_f h7)
  exact ⟨_, triple (q.1.trans e.1) (q.2.trans e.2) rfl, ZI_S h s (SI_fewest' h.1.1 h.1.2.1 t), s⟩
theorem SI_sure' {M : Mem} (hC : CI M) (hQ : SI M) (t : Int) : SI (fX8_sure M t).2.2 := by
  unfold fX8_sure
  (repeat' split) <;> first | exact hQ | exact SI_heard hC hQ t
theorem zq_sure {T : Int → Int} {M : Mem} (h : ZI T M) (t : Int) {v : Int} (e : (fX8_sure (zM T) t).1 = 0 ∧ (fX8_sure (zM T) t).2.1 = v) : ∃ N : Mem, fX8_sure M t = (0, v, N) ∧ ZI T N ∧ (SameS M N) := by
  have q := q_sure h.2.2 t
  have s : SameS M (fX8_sure M t).2.2 := fun r h1 h2 h3 h4 h7 => fr_fX8_sure t (beq_f h1) (beq_f h2) (beq_f h3) (beq_f h4) (beq_f h7)
  exact ⟨_, triple (q.1.trans e.1) (q.2.trans e.2) rfl, ZI_S h s (SI_sure' h.1.1 h.1.2.1 t), s⟩
theorem SI_phraseOf' {M : Mem} (hC : CI M) (hQ : SI M) (t p w : Int) : SI (fX8_phraseOf M t p w).2.2 := by
  unfold fX8_phraseOf
  (repeat' split) <;> first | exact hQ | exact SI_heard hC hQ t
theorem zq_phraseOf {T : Int → Int} {M : Mem} (h : ZI T M) (t p w : Int) {v : Int} (e : (fX8_phraseOf (zM T) t p w).1 = 0 ∧ (fX8_phraseOf (zM T) t p w).2.1 = v) : ∃ N : Mem, fX8_phraseOf M t p w = (0, v, N) ∧ ZI T N ∧ (SameS M N) := by
  have q := q_phraseOf h.2.2 t p w
  have s : SameS M (fX8_phraseOf M t p w).2.2 := fun r h1 h2 h3 h4 h7 => fr_fX8_phraseOf t p w (beq_f h1) (beq_f h2) (beq_f h3) (beq_f h4) (beq_f h7)
  exact ⟨_, triple (q.1.trans e.1) (q.2.trans e.2) rfl, ZI_S h s (SI_phraseOf' h.1.1 h.1.2.1 t p w), s⟩
theorem SI_tableOf' {M : Mem} (hC : CI M) (hQ : SI M) (t w : Int) : SI (fX8_tableOf M t w).2.2 := by
  unfold fX8_tableOf
  (repeat' split) <;> first | exact hQ | exact SI_heard hC hQ t
theorem zq_tableOf {T : Int → Int} {M : Mem} (h : ZI T M) (t w : Int) {v : Int} (e : (fX8_tableOf (zM T) t w).1 = 0 ∧ (fX8_tableOf (zM T) t w).2.1 = v) : ∃ N : Mem, fX8_tableOf M t w = (0, v, N) ∧ ZI T N ∧ (SameS M N) := by
  have q := q_tableOf h.2.2 t w
  have s : SameS M (fX8_tableOf M t w).2.2 := fun r h1 h2 h3 h4 h7 => fr_fX8_tableOf t w (beq_f h1) (beq_f h2) (beq_f h3) (beq_f h4) (beq_f h7)
  exact ⟨_, triple (q.1.trans e.1) (q.2.trans e.2) rfl, ZI_S h s (SI_tableOf' h.1.1 h.1.2.1 t w), s⟩
theorem SI_clearest_L {M : Mem} (p : Int) : ∀ (k : Nat) (Mx : Mem) (i : Int), CI Mx → SI Mx → SI (fX8_clearest_L1 M p k Mx i).2.2 := by
  intro k
  induction k with
  | zero => intro Mx i _ q; exact q
  | succ k ih =>
    intro Mx i c q
    have c1 : CI (fX8_tablesAheadOf Mx i).2 := CI_of0 (fr_fX8_tablesAheadOf i rfl rfl rfl rfl rfl) c
    rw [fX8_clearest_L1]
    split
    · exact q
    split
    · exact SI_tablesAheadOf c q i
    · exact ih _ _ c1 (SI_tablesAheadOf c q i)
theorem zq_clearest {T : Int → Int} {M : Mem} (h : ZI T M) (t : Int) {v : Int} (e : (fX8_clearest (zM T) t).1 = 0 ∧ (fX8_clearest (zM T) t).2.1 = v) : ∃ N : Mem, fX8_clearest M t = (0, v, N) ∧ ZI T N ∧ SameS M N := by
  have q := q_clearest h.2.2 t
  have s : SameS M (fX8_clearest M t).2.2 := fun r h1 h2 h3 h4 h7 => fr_fX8_clearest t (beq_f h1) (beq_f h2) (beq_f h3) (beq_f h4) (beq_f h7)
  exact ⟨_, triple (q.1.trans e.1) (q.2.trans e.2) rfl, ZI_S h s (SI_clearest_L t 4 M 0 h.1.1 h.1.2.1), s⟩
theorem zq_account {T : Int → Int} {M : Mem} (h : ZI T M) {w : Int} (hw : 0 ≤ w ∧ w ≤ 9) {v : Int} (e : (fX8_account (zM T) w).2.1 = v) : ∃ N : Mem, fX8_account M w = (0, v, N) ∧ ZI T N ∧ SameS M N :=
  ⟨_, triple (account_0 M ⟨hw.1, by omega⟩) ((q_account h.2.2 hw).trans e) rfl, ZI_S h (account_S M w) (SI_account h.1.1 h.1.2.1 ⟨hw.1, by omega⟩), account_S M w⟩
theorem zq_napkinOf {T : Int → Int} {M : Mem} (h : ZI T M) (n w : Int) {v : Int × Int} (e : fX8_napkinOf (zM T) n w = v) : fX8_napkinOf M n w = v := (q_napkinOf h.2.2 n w).trans e
theorem zq_worn {T : Int → Int} {M : Mem} (h : ZI T M) (p : Int) {v : Int × Int} (e : fX8_worn (zM T) p = v) : fX8_worn M p = v := (q_worn h.2.2 p).trans e
theorem zq_fewestAgain {T : Int → Int} {M : Mem} (h : ZI T M) (t : Int) {v : Int} (e : (fX8_fewestAgain (zM T) t).1 = 0 ∧ (fX8_fewestAgain (zM T) t).2.1 = v) : ∃ N : Mem, fX8_fewestAgain M t = (0, v, N) ∧ ZI T N ∧ N 18 = M 18 ∧ N 19 = M 19 := by
  have q := q_fewestAgain h.2.2 t
  have s : ∀ r : Nat, r ≠ 1 → r ≠ 2 → r ≠ 3 → r ≠ 4 → r ≠ 7 → r ≠ 5 → r ≠ 6 → (fX8_fewestAgain M t).2.2 r = M r := fun r h1 h2 h3 h4 h7 h5 h6 => fr_fX8_fewestAgain t (beq_f h1) (beq_f h2) (beq_f h3) (beq_f h4) (beq_f h5) (beq_f h6) (beq_f h7)
  have f : ∀ (N : Mem) (r : Nat), r ≠ 5 → r ≠ 6 → (fX4_fewestByPoints N).2 r = N r := fun N r h5 h6 => fr_fX4_fewestByPoints (beq_f h5) (beq_f h6)
  have k : OI (fX8_fewestAgain M t).2.2 := by
    unfold fX8_fewestAgain
    have hh : OI (fX8_heard M t) := OI_S h.1 (heard_S M t) (SI_heard h.1.1 h.1.2.1 t)
    (repeat' split) <;> first | exact h.1 | exact OI_fr hh (fun r h5 h6 _ _ _ _ _ _ _ => f _ r h5 h6)
  exact ⟨_, triple (q.1.trans e.1) (q.2.trans e.2) rfl, ⟨k, by rw [s 11 (by decide) (by decide) (by decide) (by decide) (by decide) (by decide) (by decide)]; exact h.2.1, h.2.2.of2 (s 0 (by decide) (by decide) (by decide) (by decide) (by decide) (by decide) (by decide)) rfl⟩, s 18 (by decide) (by decide) (by decide) (by decide) (by decide) (by decide) (by decide), s 19 (by decide) (by decide) (by decide) (by decide) (by decide) (by decide) (by decide)⟩
/-! changes -/
theorem OI_cM {M : Mem} (h : OI M) (co a b d : Int) : OI (cM M co a b d) := by
  obtain ⟨k1, k2, k3, k4⟩ := cM_KI h.1 h.2.1 h.2.2.1 h.2.2.2.1 co a b d
  exact ⟨k1, k2, k3, k4, LN_of (fr_fX8_change co a b d rfl rfl rfl rfl rfl rfl rfl rfl rfl rfl rfl) (fr_fX8_change co a b d rfl rfl rfl rfl rfl rfl rfl rfl rfl rfl rfl) h.2.2.2.2⟩
theorem cM_11 (M : Mem) (co a b d : Int) : cM M co a b d 11 = M 11 := fr_fX8_change co a b d rfl rfl rfl rfl rfl rfl rfl rfl rfl rfl rfl
theorem zc_fine {T T' : Int → Int} {M : Mem} (h : ZI T M) (co a b d : Int) {v : Int} (e : (fX8_change (zM T) co a b d).1 = 0 ∧ (fX8_change (zM T) co a b d).2.1 = v) (e2 : ∀ j : Fin 80, (fX8_change (zM T) co a b d).2.2 0 (j.val : Int) = T' (j.val : Int)) : fX8_change M co a b d = (0, v, cM M co a b d) ∧ ZI T' (cM M co a b d) := by
  have q := ch_c h.2.2 co a b d
  refine ⟨triple (q.1.trans e.1) (q.2.1.trans e.2) rfl, OI_cM h.1 co a b d, by rw [cM_11]; exact h.2.1, fun j x y => ?_⟩
  obtain ⟨k, rfl⟩ := Int.eq_ofNat_of_zero_le x
  exact (q.2.2 (k : Int) x y).trans (e2 ⟨k, by omega⟩)
theorem zc_no {T : Int → Int} {M : Mem} (h : ZI T M) (co a b d : Int) {v : Int} (e : (fX5_judge (zM T) co a b d).1 = v) (h0 : 0 < v) : (fX8_change M co a b d).1 = 3 ∧ ZI T (cM M co a b d) ∧ cM M co a b d 18 0 = v ∧ cM M co a b d 19 0 = 0 := by
  have q := ch_18 (M := M) (co := co) (a := a) (b := b) (d := d) (v := v) ((ju_c h.2.2 co a b d).1.trans e) h0
  exact ⟨q.1, ⟨OI_cM h.1 co a b d, by rw [cM_11]; exact h.2.1, h.2.2.of2 q.2.2.2 rfl⟩, q.2.1, q.2.2.1⟩
theorem ch_napkin {M : Mem} {a v : Int} {N : Mem} (h : fX8_change M 0 a 0 0 = (0, v, N)) : fX8_napkin M a = (0, v, N) := by
  unfold fX8_napkin
  rw [h]
  rfl
theorem ch_fold {M : Mem} {a b v : Int} {N : Mem} (h : fX8_change M 1 a b 0 = (0, v, N)) : fX8_fold M a b = (0, v, N) := by
  unfold fX8_fold
  rw [h]
  rfl
theorem ch_unfold {M : Mem} {a v : Int} {N : Mem} (h : fX8_change M 2 a 0 0 = (0, v, N)) : fX8_unfold M a = (0, v, N) := by
  unfold fX8_unfold
  rw [h]
  rfl
theorem ch_lay {M : Mem} {a b v : Int} {N : Mem} (h : fX8_change M 6 a b 0 = (0, v, N)) : fX8_lay M a b = (0, v, N) := by
  unfold fX8_lay
  rw [h]
  rfl
theorem ch_take {M : Mem} {a v : Int} {N : Mem} (h : fX8_change M 3 a 0 0 = (0, v, N)) : fX8_take M a = (0, v, N) := by
  unfold fX8_take
  rw [h]
  rfl
theorem ch_move {M : Mem} {a b d v : Int} {N : Mem} (h : fX8_change M 7 a b d = (0, v, N)) : fX8_move M a b d = (0, v, N) := by
  unfold fX8_move
  rw [h]
  rfl
theorem ch_stain {M : Mem} {a b v : Int} {N : Mem} (h : fX8_change M 8 a b 0 = (0, v, N)) : fX8_stain M a b = (0, v, N) := by
  unfold fX8_stain
  rw [h]
  rfl
theorem ch_wash {M : Mem} {a v : Int} {N : Mem} (h : fX8_change M 4 a 0 0 = (0, v, N)) : fX8_wash M a = (0, v, N) := by
  unfold fX8_wash
  rw [h]
  rfl
theorem ch_host {M : Mem} {a v : Int} {N : Mem} (h : fX8_change M 5 a 0 0 = (0, v, N)) : fX8_host M a = (0, v, N) := by
  unfold fX8_host
  rw [h]
  rfl
/-- a refused act is answered -2 -/
theorem act_no {M : Mem} {co a b d : Int} (h : (fX8_change M co a b d).1 = 3) (x : Int × Int × Mem) (hx : x = if (fX8_change M co a b d).1 = 0 then (0, (fX8_change M co a b d).2.1, (fX8_change M co a b d).2.2) else ((fX8_change M co a b d).1, 0, (fX8_change M co a b d).2.2)) : (fL_ans x).1 = -2 := by
  subst hx
  rw [h]
  rfl
/-! the line -/
def LEq (M N : Mem) : Prop := M 13 0 = N 13 0 ∧ ∀ i : Int, 0 ≤ i → i < N 13 0 → M 12 i = N 12 i
theorem ad_c {M N : Mem} (h : LEq M N) (s : Int) : LEq (fX3_add M s) (fX3_add N s) := by
  unfold fX3_add
  rw [h.1]
  split
  · exact h
  split
  · exact h
  · refine ⟨rfl, fun i a b => ?_⟩
    have b : i < N 13 0 + 1 := b
    show up (M 12) (N 13 0) s i = up (N 12) (N 13 0) s i
    unfold up
    split
    · rfl
    · exact h.2 i a (by omega)
theorem ad_R {M N : Mem} (h : REq M N) (s : Int) : REq (fX3_add M s) (fX3_add N s) := h.of2 (fr_fX3_add s rfl rfl) (fr_fX3_add s rfl rfl)
theorem ad_S {M N : Mem} (h : SEq M N) (s : Int) : SEq (fX3_add M s) (fX3_add N s) := by
  have e : ∀ (K : Mem) (r : Nat), r ≠ 12 → r ≠ 13 → (fX3_add K s) r = K r := fun K r a b => fr_fX3_add s (beq_f a) (beq_f b)
  refine ⟨by rw [e M 7 (by decide) (by decide), e N 7 (by decide) (by decide)]; exact h.1, fun r hr i a b => ?_⟩
  rw [e N 7 (by decide) (by decide)] at b
  have q := h.2 r hr i a b
  rcases hr with rfl | rfl | rfl | rfl <;> (rw [e M _ (by decide) (by decide), e N _ (by decide) (by decide)]; exact q)
theorem dd_R {M N : Mem} (h : REq M N) (s : Int) : REq (fX3_addDigit M s) (fX3_addDigit N s) := ad_R h _
theorem dd_S {M N : Mem} (h : SEq M N) (s : Int) : SEq (fX3_addDigit M s) (fX3_addDigit N s) := ad_S h _
theorem dd_c {M N : Mem} (h : LEq M N) (s : Int) : LEq (fX3_addDigit M s) (fX3_addDigit N s) := ad_c h _
theorem shw_L (M N : Mem) (t : Int) : ∀ (k : Nat) (Mx Nx : Mem) (p : Int), REq Mx Nx → LEq Mx Nx → (fX8_show_L1 M t k Mx p).1 = (fX8_show_L1 N t k Nx p).1 ∧ (fX8_show_L1 M t k Mx p).2.1 = (fX8_show_L1 N t k Nx p).2.1 ∧ LEq (fX8_show_L1 M t k Mx p).2.2 (fX8_show_L1 N t k Nx p).2.2 := by
  intro k
  induction k with
  | zero => intro Mx Nx p g q; exact ⟨rfl, rfl, q⟩
  | succ k ih =>
    intro Mx Nx p g q
    rw [fX8_show_L1, fX8_show_L1]
    have g1 := dd_R g (fX6_seatedAt Nx t p)
    have q1 := dd_c q (fX6_seatedAt Nx t p)
    have g2 := ad_R g1 (fX8_letterIn_s (fX6_foldOf (fX3_addDigit Nx (fX6_seatedAt Nx t p)) (fX6_seatedAt Nx t p)))
    have q2 := ad_c q1 (fX8_letterIn_s (fX6_foldOf (fX3_addDigit Nx (fX6_seatedAt Nx t p)) (fX6_seatedAt Nx t p)))
    rw [la_c g, sa_c g, fo_c g1, sn_c g2]
    split
    · exact ⟨rfl, q.1, q⟩
    split
    · exact ih _ _ _ g2 q2
    · exact ih _ _ _ (ad_R g2 42) (ad_c q2 42)
theorem shw_c {M N : Mem} (h : REq M N) (t : Int) (ht : 0 ≤ t ∧ t < 3) : (fX8_show M t).1 = (fX8_show N t).1 ∧ (fX8_show M t).2.1 = (fX8_show N t).2.1 ∧ LEq (fX8_show M t).2.2 (fX8_show N t).2.2 := by
  unfold fX8_show
  rw [if_pos (checkTable_0 ht), if_pos (checkTable_0 ht)]
  exact shw_L M N t 8 _ _ 0 (fun j a b => h j a b) ⟨rfl, fun i a b => by have b : i < (0 : Int) := b; omega⟩
theorem tel_L (M N : Mem) (t : Int) : ∀ (k : Nat) (Mx Nx : Mem) (p : Int), REq Mx Nx → SEq Mx Nx → LEq Mx Nx → (fX8_tell_L1 M t k Mx p).1 = (fX8_tell_L1 N t k Nx p).1 ∧ (fX8_tell_L1 M t k Mx p).2.1 = (fX8_tell_L1 N t k Nx p).2.1 ∧ LEq (fX8_tell_L1 M t k Mx p).2.2 (fX8_tell_L1 N t k Nx p).2.2 := by
  intro k
  induction k with
  | zero => intro Mx Nx p g s q; exact ⟨rfl, rfl, q⟩
  | succ k ih =>
    intro Mx Nx p g s q
    rw [fX8_tell_L1, fX8_tell_L1]
    unfold fX4_size
    rw [npa_c s, s.1]
    by_cases h1 : Nx 7 0 ≤ p
    · rw [if_pos h1, if_pos h1]
      exact ⟨rfl, q.1, q⟩
    rw [if_neg h1, if_neg h1]
    generalize fX4_napkinAt Nx p = n
    have B : ∀ (My Ny : Mem), REq My Ny → SEq My Ny → LEq My Ny → ∀ z : Int × Int × Mem, ∀ w : Int × Int × Mem, z = (if fX6_foldOf (fX3_add My (fX8_letterIn_b (fX6_foldOf My n))) n = 4 then if fX6_stainsOf (fX3_add My (fX8_letterIn_b (fX6_foldOf My n))) n ≤ 0 then fX8_tell_L1 M t k (fX3_add My (fX8_letterIn_b (fX6_foldOf My n))) (p + 1) else fX8_tell_L1 M t k (fX3_add (fX3_add My (fX8_letterIn_b (fX6_foldOf My n))) 63) (p + 1) else if fX6_stainsOf (fX3_addDigit (fX3_add My (fX8_letterIn_b (fX6_foldOf My n))) (fX6_colourOf (fX3_add My (fX8_letterIn_b (fX6_foldOf My n))) n)) n ≤ 0 then fX8_tell_L1 M t k (fX3_addDigit (fX3_add My (fX8_letterIn_b (fX6_foldOf My n))) (fX6_colourOf (fX3_add My (fX8_letterIn_b (fX6_foldOf My n))) n)) (p + 1) else fX8_tell_L1 M t k (fX3_add (fX3_addDigit (fX3_add My (fX8_letterIn_b (fX6_foldOf My n))) (fX6_colourOf (fX3_add My (fX8_letterIn_b (fX6_foldOf My n))) n)) 63) (p + 1)) → w = (if fX6_foldOf (fX3_add Ny (fX8_letterIn_b (fX6_foldOf Ny n))) n = 4 then if fX6_stainsOf (fX3_add Ny (fX8_letterIn_b (fX6_foldOf Ny n))) n ≤ 0 then fX8_tell_L1 N t k (fX3_add Ny (fX8_letterIn_b (fX6_foldOf Ny n))) (p + 1) else fX8_tell_L1 N t k (fX3_add (fX3_add Ny (fX8_letterIn_b (fX6_foldOf Ny n))) 63) (p + 1) else if fX6_stainsOf (fX3_addDigit (fX3_add Ny (fX8_letterIn_b (fX6_foldOf Ny n))) (fX6_colourOf (fX3_add Ny (fX8_letterIn_b (fX6_foldOf Ny n))) n)) n ≤ 0 then fX8_tell_L1 N t k (fX3_addDigit (fX3_add Ny (fX8_letterIn_b (fX6_foldOf Ny n))) (fX6_colourOf (fX3_add Ny (fX8_letterIn_b (fX6_foldOf Ny n))) n)) (p + 1) else fX8_tell_L1 N t k (fX3_add (fX3_addDigit (fX3_add Ny (fX8_letterIn_b (fX6_foldOf Ny n))) (fX6_colourOf (fX3_add Ny (fX8_letterIn_b (fX6_foldOf Ny n))) n)) 63) (p + 1)) → z.1 = w.1 ∧ z.2.1 = w.2.1 ∧ LEq z.2.2 w.2.2 := by
      intro My Ny g s q z w hz hw
      have g1 := ad_R g (fX8_letterIn_b (fX6_foldOf Ny n))
      have s1 := ad_S s (fX8_letterIn_b (fX6_foldOf Ny n))
      have q1 := ad_c q (fX8_letterIn_b (fX6_foldOf Ny n))
      have g2 := dd_R g1 (fX6_colourOf (fX3_add Ny (fX8_letterIn_b (fX6_foldOf Ny n))) n)
      have s2 := dd_S s1 (fX6_colourOf (fX3_add Ny (fX8_letterIn_b (fX6_foldOf Ny n))) n)
      have q2 := dd_c q1 (fX6_colourOf (fX3_add Ny (fX8_letterIn_b (fX6_foldOf Ny n))) n)
      rw [fo_c g, fo_c g1, sn_c g1, cu_c g1, sn_c g2] at hz
      subst hz hw
      split
      · split
        · exact ih _ _ _ g1 s1 q1
        · exact ih _ _ _ (ad_R g1 63) (ad_S s1 63) (ad_c q1 63)
      · split
        · exact ih _ _ _ g2 s2 q2
        · exact ih _ _ _ (ad_R g2 63) (ad_S s2 63) (ad_c q2 63)
    by_cases h2 : p ≤ 0
    · rw [if_pos h2, if_pos h2]
      exact B Mx Nx g s q _ _ rfl rfl
    · rw [if_neg h2, if_neg h2]
      exact B _ _ (ad_R g 32) (ad_S s 32) (ad_c q 32) _ _ rfl rfl
theorem tel_c {M N : Mem} (h : REq M N) (t : Int) (ht : 0 ≤ t ∧ t < 3) : (fX8_tell M t).1 = (fX8_tell N t).1 ∧ (fX8_tell M t).2.1 = (fX8_tell N t).2.1 ∧ LEq (fX8_tell M t).2.2 (fX8_tell N t).2.2 := by
  have e := he_c (M := fX3_empty M) (N := fX3_empty N) (fun j a b => h j a b) t
  unfold fX8_tell
  rw [if_pos (checkTable_0 ht), if_pos (checkTable_0 ht)]
  have l : ∀ K : Mem, (fX8_heard (fX3_empty K) t) 13 0 = 0 := fun K => congrFun (fr_fX8_heard (M := fX3_empty K) (r := 13) t rfl rfl rfl rfl rfl) 0
  exact tel_L M N t 8 _ _ 0 e.1 e.2 ⟨(l M).trans (l N).symm, fun i a b => by rw [l N] at b; omega⟩
theorem wri_c {M N : Mem} (h : LEq M N) (i : Int) : fX8_written M i = fX8_written N i := by
  unfold fX8_written fX3_length fX3_at
  rw [h.1]
  split
  · rfl
  split
  · rename_i a b
    have c : ¬ N 13 0 ≤ i := by omega
    simp only [if_neg c]
    split
    · rfl
    · rw [h.2 i (by omega) b]
  · rfl
theorem LN_show_L {M : Mem} (t : Int) : ∀ (k : Nat) (Mx : Mem) (p : Int), CI Mx → LN Mx → LN (fX8_show_L1 M t k Mx p).2.2 := by
  intro k
  induction k with
  | zero => intro Mx p _ q; exact q
  | succ k ih =>
    intro Mx p c q
    have r := rg_X6_seatedAt c t p
    have q1 := LN_addDigit q _ r
    have c1 : CI (fX3_addDigit Mx (fX6_seatedAt Mx t p)) := CI_of0 (fr_fX3_addDigit _ rfl rfl) c
    have r2 := rg_X8_letterIn_s (fX6_foldOf (fX3_addDigit Mx (fX6_seatedAt Mx t p)) (fX6_seatedAt Mx t p))
    have q2 := LN_add q1 (fX8_letterIn_s (fX6_foldOf (fX3_addDigit Mx (fX6_seatedAt Mx t p)) (fX6_seatedAt Mx t p))) ⟨r2.1, by omega⟩
    have c2 : CI (fX3_add (fX3_addDigit Mx (fX6_seatedAt Mx t p)) (fX8_letterIn_s (fX6_foldOf (fX3_addDigit Mx (fX6_seatedAt Mx t p)) (fX6_seatedAt Mx t p)))) := CI_of0 (fr_fX3_add _ rfl rfl) c1
    rw [fX8_show_L1]
    split
    · exact q
    split
    · exact ih _ _ c2 q2
    · exact ih _ _ (CI_of0 (fr_fX3_add _ rfl rfl) c2) (LN_add q2 42 (by decide))
theorem LN_tell_L {M : Mem} (t : Int) : ∀ (k : Nat) (Mx : Mem) (p : Int), CI Mx → LN Mx → LN (fX8_tell_L1 M t k Mx p).2.2 := by
  intro k
  induction k with
  | zero => intro Mx p _ q; exact q
  | succ k ih =>
    intro Mx p c q
    have A : ∀ (K : Mem) (f : Int), CI K ∧ LN K → CI (fX3_add K (fX8_letterIn_b f)) ∧ LN (fX3_add K (fX8_letterIn_b f)) := fun K f h => by
      have r := rg_X8_letterIn_b f
      exact ⟨CI_of0 (fr_fX3_add _ rfl rfl) h.1, LN_add h.2 _ ⟨r.1, by omega⟩⟩
    have A3 : ∀ (K : Mem) (z : Int), 0 ≤ z ∧ z < 65536 → CI K ∧ LN K → CI (fX3_add K z) ∧ LN (fX3_add K z) := fun K z hz h => ⟨CI_of0 (fr_fX3_add _ rfl rfl) h.1, LN_add h.2 z hz⟩
    have A2 : ∀ (K : Mem) (n : Int), CI K ∧ LN K → CI (fX3_addDigit K (fX6_colourOf K n)) ∧ LN (fX3_addDigit K (fX6_colourOf K n)) := fun K n h => by
      have r := rg_X6_colourOf h.1 n
      exact ⟨CI_of0 (fr_fX3_addDigit _ rfl rfl) h.1, LN_addDigit h.2 _ ⟨by omega, by omega⟩⟩
    rw [fX8_tell_L1]
    have b0 := A Mx (fX6_foldOf Mx (fX4_napkinAt Mx p)) ⟨c, q⟩
    have b1 := A3 Mx 32 (by decide) ⟨c, q⟩
    have b2 := A _ (fX6_foldOf (fX3_add Mx 32) (fX4_napkinAt Mx p)) b1
    split
    · exact q
    split
    · split
      · split
        · exact ih _ _ b0.1 b0.2
        · have b := A3 _ 63 (by decide) b0; exact ih _ _ b.1 b.2
      · have b := A2 _ (fX4_napkinAt Mx p) b0
        split
        · exact ih _ _ b.1 b.2
        · have b' := A3 _ 63 (by decide) b; exact ih _ _ b'.1 b'.2
    · split
      · split
        · exact ih _ _ b2.1 b2.2
        · have b := A3 _ 63 (by decide) b2; exact ih _ _ b.1 b.2
      · have b := A2 _ (fX4_napkinAt Mx p) b2
        split
        · exact ih _ _ b.1 b.2
        · have b' := A3 _ 63 (by decide) b; exact ih _ _ b'.1 b'.2
theorem zq_show {T : Int → Int} {M : Mem} (h : ZI T M) (t : Int) (ht : 0 ≤ t ∧ t < 3) {v : Int} (e : (fX8_show (zM T) t).1 = 0 ∧ (fX8_show (zM T) t).2.1 = v) : ∃ N : Mem, fX8_show M t = (0, v, N) ∧ ZI T N ∧ N 18 = M 18 ∧ N 19 = M 19 ∧ ∀ i : Int, fX8_written N i = fX8_written (fX8_show (zM T) t).2.2 i := by
  have q := shw_c h.2.2 t ht
  have f : ∀ r : Nat, r ≠ 12 → r ≠ 13 → (fX8_show M t).2.2 r = M r := fun r a b => fr_fX8_show t (beq_f a) (beq_f b)
  have l : LN (fX8_show M t).2.2 := by
    unfold fX8_show
    rw [if_pos (checkTable_0 ht)]
    exact LN_show_L t 8 _ 0 (CI_of0 (M := M) rfl h.1.1) (LN_empty h.1.2.2.2.2)
  exact ⟨_, triple (q.1.trans e.1) (q.2.1.trans e.2) rfl, ⟨⟨CI_of0 (f 0 (by decide) (by decide)) h.1.1, SI_same (fun r hr => by rcases hr with rfl | rfl | rfl | rfl | rfl <;> exact f _ (by decide) (by decide)) h.1.2.1, TI_of (f 10 (by decide) (by decide)) (f 11 (by decide) (by decide)) h.1.2.2.1, HN_of (f 9 (by decide) (by decide)) h.1.2.2.2.1, l⟩, by rw [f 11 (by decide) (by decide)]; exact h.2.1, h.2.2.of2 (f 0 (by decide) (by decide)) rfl⟩, f 18 (by decide) (by decide), f 19 (by decide) (by decide), fun i => wri_c q.2.2 i⟩
theorem SI_tell_L {M : Mem} (t : Int) : ∀ (k : Nat) (Mx : Mem) (p : Int), SI Mx → SI (fX8_tell_L1 M t k Mx p).2.2 := by
  intro k
  induction k with
  | zero => intro Mx p q; exact q
  | succ k ih =>
    intro Mx p q
    have A : ∀ (K : Mem) (z : Int), SI K → SI (fX3_add K z) := fun K z h => SI_same (M := K) (fun r hr => by rcases hr with rfl | rfl | rfl | rfl | rfl <;> exact fr_fX3_add z rfl rfl) h
    have A2 : ∀ (K : Mem) (z : Int), SI K → SI (fX3_addDigit K z) := fun K z h => SI_same (M := K) (fun r hr => by rcases hr with rfl | rfl | rfl | rfl | rfl <;> exact fr_fX3_addDigit z rfl rfl) h
    rw [fX8_tell_L1]
    have b0 := A Mx (fX8_letterIn_b (fX6_foldOf Mx (fX4_napkinAt Mx p))) q
    have b1 := A Mx 32 q
    have b2 := A _ (fX8_letterIn_b (fX6_foldOf (fX3_add Mx 32) (fX4_napkinAt Mx p))) b1
    split
    · exact q
    split
    · split
      · split
        · exact ih _ _ b0
        · have b := A _ 63 b0; exact ih _ _ b
      · have b := A2 _ (fX6_colourOf (fX3_add Mx (fX8_letterIn_b (fX6_foldOf Mx (fX4_napkinAt Mx p)))) (fX4_napkinAt Mx p)) b0
        split
        · exact ih _ _ b
        · have b' := A _ 63 b; exact ih _ _ b'
    · split
      · split
        · exact ih _ _ b2
        · have b := A _ 63 b2; exact ih _ _ b
      · have b := A2 _ (fX6_colourOf (fX3_add (fX3_add Mx 32) (fX8_letterIn_b (fX6_foldOf (fX3_add Mx 32) (fX4_napkinAt Mx p)))) (fX4_napkinAt Mx p)) b2
        split
        · exact ih _ _ b
        · have b' := A _ 63 b; exact ih _ _ b'
theorem SI_tell {M : Mem} (hC : CI M) (hQ : SI M) (t : Int) (ht : 0 ≤ t ∧ t < 3) : SI (fX8_tell M t).2.2 := by
  have c : CI (fX3_empty M) := CI_of0 (M := M) (fr_fX3_empty rfl) hC
  have s : SI (fX3_empty M) := SI_same (M := M) (fun r hr => by rcases hr with rfl | rfl | rfl | rfl | rfl <;> exact fr_fX3_empty rfl) hQ
  have s2 := SI_heard c s t
  unfold fX8_tell
  rw [if_pos (checkTable_0 ht)]
  exact SI_tell_L t 8 _ 0 s2
theorem zq_tell {T : Int → Int} {M : Mem} (h : ZI T M) (t : Int) (ht : 0 ≤ t ∧ t < 3) {v : Int} (e : (fX8_tell (zM T) t).1 = 0 ∧ (fX8_tell (zM T) t).2.1 = v) : ∃ N : Mem, fX8_tell M t = (0, v, N) ∧ ZI T N ∧ N 18 = M 18 ∧ N 19 = M 19 ∧ ∀ i : Int, fX8_written N i = fX8_written (fX8_tell (zM T) t).2.2 i := by
  have q := tel_c h.2.2 t ht
  have f : ∀ r : Nat, r ≠ 1 → r ≠ 2 → r ≠ 3 → r ≠ 4 → r ≠ 7 → r ≠ 12 → r ≠ 13 → (fX8_tell M t).2.2 r = M r := fun r h1 h2 h3 h4 h7 a b => fr_fX8_tell t (beq_f h1) (beq_f h2) (beq_f h3) (beq_f h4) (beq_f h7) (beq_f a) (beq_f b)
  have l : LN (fX8_tell M t).2.2 := by
    unfold fX8_tell
    rw [if_pos (checkTable_0 ht)]
    exact LN_tell_L t 8 _ 0 (CI_of0 (M := M) (fr_fX8_heard t rfl rfl rfl rfl rfl) h.1.1) (LN_of (M := fX3_empty M) (fr_fX8_heard t rfl rfl rfl rfl rfl) (fr_fX8_heard t rfl rfl rfl rfl rfl) (LN_empty h.1.2.2.2.2))
  exact ⟨_, triple (q.1.trans e.1) (q.2.1.trans e.2) rfl, ⟨⟨CI_of0 (f 0 (by decide) (by decide) (by decide) (by decide) (by decide) (by decide) (by decide)) h.1.1, SI_tell h.1.1 h.1.2.1 t ht, TI_of (f 10 (by decide) (by decide) (by decide) (by decide) (by decide) (by decide) (by decide)) (f 11 (by decide) (by decide) (by decide) (by decide) (by decide) (by decide) (by decide)) h.1.2.2.1, HN_of (f 9 (by decide) (by decide) (by decide) (by decide) (by decide) (by decide) (by decide)) h.1.2.2.2.1, l⟩, by rw [f 11 (by decide) (by decide) (by decide) (by decide) (by decide) (by decide) (by decide)]; exact h.2.1, h.2.2.of2 (f 0 (by decide) (by decide) (by decide) (by decide) (by decide) (by decide) (by decide)) rfl⟩, f 18 (by decide) (by decide) (by decide) (by decide) (by decide) (by decide) (by decide), f 19 (by decide) (by decide) (by decide) (by decide) (by decide) (by decide) (by decide), fun i => wri_c q.2.2 i⟩
