/-! STATE AND READ over known cells. -/
theorem st1_c : ∀ (f : Nat) (k v : Int) (M N : Mem), REq M N → 0 ≤ k → k + f ≤ 10 → (fS1 f k v M).1 = (fS1 f k v N).1 ∧ SameS M (fS1 f k v M).2 := by
  intro f
  induction f with
  | zero => intro k v M N _ _ _; exact ⟨rfl, SameS.rf M⟩
  | succ f ih =>
    intro k v M N h h0 h1
    have s1 := account_S M k
    have s2 := account_S N k
    have e : (fX8_account M k).2.1 = (fX8_account N k).2.1 := q_account h ⟨h0, by omega⟩
    have r := ih (k + 1) (31 * v + (fX8_account M k).2.1) _ (fX8_account N k).2.2 (h.of2 (s1 0 (by decide) (by decide) (by decide) (by decide) (by decide)) (s2 0 (by decide) (by decide) (by decide) (by decide) (by decide))) (by omega) (by omega)
    refine ⟨?_, s1.tr r.2⟩
    show (fS1 f (k + 1) (31 * v + (fX8_account M k).2.1) (fX8_account M k).2.2).1 = (fS1 f (k + 1) (31 * v + (fX8_account N k).2.1) (fX8_account N k).2.2).1
    rw [r.1, e]
theorem st2i_c {M N : Mem} (h : REq M N) (n : Int) : ∀ (f : Nat) (k v : Int), fS2i M n f k v = fS2i N n f k v := by
  intro f
  induction f with
  | zero => intro k v; rfl
  | succ f ih => intro k v; rw [fS2i, fS2i, q_napkinOf h, ih]
theorem st2_c {M N : Mem} (h : REq M N) : ∀ (f : Nat) (k v : Int), fS2 M f k v = fS2 N f k v := by
  intro f
  induction f with
  | zero => intro k v; rfl
  | succ f ih => intro k v; rw [fS2, fS2, st2i_c h, ih]
theorem st3i_c (t : Int) : ∀ (f : Nat) (k v : Int) (M N : Mem), REq M N → (fS3i t f k v M).1 = (fS3i t f k v N).1 ∧ SameS M (fS3i t f k v M).2 ∧ SameS N (fS3i t f k v N).2 := by
  intro f
  induction f with
  | zero => intro k v M N _; exact ⟨rfl, SameS.rf M, SameS.rf N⟩
  | succ f ih =>
    intro k v M N h
    have s1 := tableOf_S M t k
    have s2 := tableOf_S N t k
    have e : (fX8_tableOf M t k).2.1 = (fX8_tableOf N t k).2.1 := (q_tableOf h t k).2
    have r := ih (k + 1) (31 * v + (fX8_tableOf M t k).2.1) _ (fX8_tableOf N t k).2.2 (h.of2 (s1 0 (by decide) (by decide) (by decide) (by decide) (by decide)) (s2 0 (by decide) (by decide) (by decide) (by decide) (by decide)))
    exact ⟨by show (fS3i t f (k + 1) (31 * v + (fX8_tableOf M t k).2.1) (fX8_tableOf M t k).2.2).1 = (fS3i t f (k + 1) (31 * v + (fX8_tableOf N t k).2.1) (fX8_tableOf N t k).2.2).1; rw [r.1, e], s1.tr r.2.1, s2.tr (by show SameS _ (fS3i t f (k + 1) (31 * v + (fX8_tableOf N t k).2.1) (fX8_tableOf N t k).2.2).2; rw [← e]; exact r.2.2)⟩
theorem st3_c : ∀ (f : Nat) (t v : Int) (M N : Mem), REq M N → (fS3 f t v M).1 = (fS3 f t v N).1 ∧ SameS M (fS3 f t v M).2 := by
  intro f
  induction f with
  | zero => intro t v M N _; exact ⟨rfl, SameS.rf M⟩
  | succ f ih =>
    intro t v M N h
    have s := st3i_c t 6 0 v M N h
    have r := ih (t + 1) (fS3i t 6 0 v M).1 _ (fS3i t 6 0 v N).2 (h.of2 (s.2.1 0 (by decide) (by decide) (by decide) (by decide) (by decide)) (s.2.2 0 (by decide) (by decide) (by decide) (by decide) (by decide)))
    refine ⟨?_, s.2.1.tr r.2⟩
    show (fS3 f (t + 1) (fS3i t 6 0 v M).1 (fS3i t 6 0 v M).2).1 = (fS3 f (t + 1) (fS3i t 6 0 v N).1 (fS3i t 6 0 v N).2).1
    rw [r.1, s.1]
theorem state_c {M N : Mem} (h : REq M N) : (fL_state M).1 = (fL_state N).1 := by
  have a := st1_c 10 0 0 M N h (by decide) (by decide)
  have b := st1_c 10 0 0 N N (REq.rf N) (by decide) (by decide)
  have h0 : REq (fS1 10 0 0 M).2 (fS1 10 0 0 N).2 := h.of2 (a.2 0 (by decide) (by decide) (by decide) (by decide) (by decide)) (b.2 0 (by decide) (by decide) (by decide) (by decide) (by decide))
  unfold fL_state
  rw [st2_c h0, h0 77 (by decide) (by decide), a.1]
  exact (st3_c 3 0 _ _ _ h0).1
theorem state_S (M : Mem) : SameS M (fL_state M).2 := by
  have a := st1_c 10 0 0 M M (REq.rf M) (by decide) (by decide)
  exact a.2.tr (st3_c 3 0 _ _ _ (REq.rf _)).2
theorem st1_SI : ∀ (f : Nat) (k v : Int) (M : Mem), CI M → SI M → 0 ≤ k → k + f ≤ 10 → SI (fS1 f k v M).2 := by
  intro f
  induction f with
  | zero => intro k v M _ q _ _; exact q
  | succ f ih => intro k v M c q a b; exact ih (k + 1) _ _ (CI_S (account_S M k) c) (SI_account c q ⟨a, by omega⟩) (by omega) (by omega)
theorem st3i_SI (t : Int) : ∀ (f : Nat) (k v : Int) (M : Mem), CI M → SI M → SI (fS3i t f k v M).2 := by
  intro f
  induction f with
  | zero => intro k v M _ q; exact q
  | succ f ih => intro k v M c q; exact ih (k + 1) _ _ (CI_S (tableOf_S M t k) c) (SI_tableOf c q t k)
theorem st3_SI : ∀ (f : Nat) (t v : Int) (M : Mem), CI M → SI M → SI (fS3 f t v M).2 := by
  intro f
  induction f with
  | zero => intro t v M _ q; exact q
  | succ f ih => intro t v M c q; exact ih (t + 1) _ _ (CI_S (st3i_c t 6 0 v M M (REq.rf M)).2.1 c) (st3i_SI t 6 0 v M c q)
theorem OI_state {M : Mem} (h : OI M) : OI (fL_state M).2 := OI_S h (state_S M) (st3_SI 3 0 _ _ (CI_S (st1_c 10 0 0 M M (REq.rf M) (by decide) (by decide)).2 h.1) (st1_SI 10 0 0 M h.1 h.2.1 (by decide) (by decide)))
/-! read -/
theorem pe_0 (M : Mem) : (fX2_push (fX7_empty M)) 0 = M 0 := fr_fX2_push rfl rfl
theorem pe_11 (M : Mem) : (fX2_push (fX7_empty M)) 11 0 = 0 := by rw [show (fX2_push (fX7_empty M)) 11 = (fX7_empty M) 11 from fr_fX2_push rfl rfl]; rfl
theorem rdl_c (M N : Mem) : ∀ (k : Nat) (Mx Nx : Mem) (v n s co : Int), REq Mx Nx → TEq Mx Nx → (fX8_read_L1 N k Nx v n s co).1 = 0 → (fX8_read_L1 M k Mx v n s co).1 = 0 ∧ (fX8_read_L1 M k Mx v n s co).2.1 = (fX8_read_L1 N k Nx v n s co).2.1 ∧ REq (fX8_read_L1 M k Mx v n s co).2.2 (fX8_read_L1 N k Nx v n s co).2.2 ∧ (fX8_read_L1 M k Mx v n s co).2.2 11 0 = (fX8_read_L1 N k Nx v n s co).2.2 11 0 := by
  intro k
  induction k with
  | zero => intro Mx Nx v n s co g t _; exact ⟨rfl, rfl, g, t.1⟩
  | succ k ih =>
    intro Mx Nx v n s co g t h
    have E : (0 : Int) = 0 ∧ n = n ∧ REq (fX2_push (fX7_empty Mx)) (fX2_push (fX7_empty Nx)) ∧ (fX2_push (fX7_empty Mx)) 11 0 = (fX2_push (fX7_empty Nx)) 11 0 := ⟨rfl, rfl, g.of2 (pe_0 Mx) (pe_0 Nx), by rw [pe_11, pe_11]⟩
    rw [fX8_read_L1] at h
    rw [fX8_read_L1, fX8_read_L1]
    by_cases c1 : co < 0
    · simp only [if_pos c1] at h ⊢
      by_cases c2 : v = 0
      · simp only [if_pos c2] at h ⊢
        exact ⟨trivial, trivial, E.2.2.1, E.2.2.2⟩
      · simp only [if_neg c2] at h
        exact absurd h (by decide)
    simp only [if_neg c1] at h ⊢
    by_cases c2 : v = 0
    · simp only [if_pos c2] at h ⊢
      by_cases c3 : 60 ≤ n
      · simp only [if_pos c3] at h ⊢
        exact ⟨trivial, trivial, E.2.2.1, E.2.2.2⟩
      simp only [if_neg c3] at h ⊢
      rw [ar_c t, ar_c t, ar_c t]
      have j := ju_c g co (fX7_argument Nx co s 0) (fX7_argument Nx co s 1) (fX7_argument Nx co s 2)
      have tm := (tx_judge Mx co (fX7_argument Nx co s 0) (fX7_argument Nx co s 1) (fX7_argument Nx co s 2)).tr t
      have tn : TEq Nx (fX5_judge Nx co (fX7_argument Nx co s 0) (fX7_argument Nx co s 1) (fX7_argument Nx co s 2)).2 := TEq.of (fr_fX5_judge (M := Nx) _ _ _ _ rfl rfl rfl rfl rfl).symm (fr_fX5_judge (M := Nx) _ _ _ _ rfl rfl rfl rfl rfl).symm
      rw [j.1]
      by_cases c4 : (fX5_judge Nx co (fX7_argument Nx co s 0) (fX7_argument Nx co s 1) (fX7_argument Nx co s 2)).1 = 0
      · simp only [if_pos c4] at h ⊢
        have y := cy_c j.2 co (fX7_argument Nx co s 0) (fX7_argument Nx co s 1) (fX7_argument Nx co s 2)
        have ty : TEq (fX5_carryOut (fX5_judge Mx co (fX7_argument Nx co s 0) (fX7_argument Nx co s 1) (fX7_argument Nx co s 2)).2 co (fX7_argument Nx co s 0) (fX7_argument Nx co s 1) (fX7_argument Nx co s 2)).2 (fX5_carryOut (fX5_judge Nx co (fX7_argument Nx co s 0) (fX7_argument Nx co s 1) (fX7_argument Nx co s 2)).2 co (fX7_argument Nx co s 0) (fX7_argument Nx co s 1) (fX7_argument Nx co s 2)).2 := ((tx_carry _ _ _ _ _).tr tm).tr (tn.tr (TEq.of (fr_fX5_carryOut (M := (fX5_judge Nx co (fX7_argument Nx co s 0) (fX7_argument Nx co s 1) (fX7_argument Nx co s 2)).2) _ _ _ _ rfl rfl rfl rfl rfl rfl).symm (fr_fX5_carryOut (M := (fX5_judge Nx co (fX7_argument Nx co s 0) (fX7_argument Nx co s 1) (fX7_argument Nx co s 2)).2) _ _ _ _ rfl rfl rfl rfl rfl rfl).symm))
        rw [cm_c ty]
        exact ih _ _ _ _ _ _ y.2 ty h
      · simp only [if_neg c4] at h ⊢
        rw [cm_c (tm.tr tn)]
        exact ih _ _ _ _ _ _ j.2 (tm.tr tn) h
    · simp only [if_neg c2] at h
      exact absurd h (by decide)
theorem rd_cc {M N : Mem} (g : REq M N) (t : TEq M N) (h : (fX8_read N).1 = 0) : (fX8_read M).1 = 0 ∧ (fX8_read M).2.1 = (fX8_read N).2.1 ∧ REq (fX8_read M).2.2 (fX8_read N).2.2 ∧ (fX8_read M).2.2 11 0 = (fX8_read N).2.2 11 0 := by
  have f : ∀ K : Mem, TEq (fX6_copyTo_b K) K := fun K => TEq.of (fr_fX6_copyTo_b rfl) (fr_fX6_copyTo_b rfl)
  have t2 : TEq (fX6_copyTo_b M) (fX6_copyTo_b N) := ((f M).tr t).tr (TEq.of (fr_fX6_copyTo_b (M := N) rfl).symm (fr_fX6_copyTo_b (M := N) rfl).symm)
  unfold fX8_read at h ⊢
  rw [er_c t]
  by_cases c : fX7_errorAt N = -1
  · rw [if_pos c] at h
    simp only [if_pos c]
    rw [cm_c t2]
    exact rdl_c M N 62 _ _ 0 0 0 _ (g.of2 (fr_fX6_copyTo_b rfl) (fr_fX6_copyTo_b rfl)) t2 h
  · rw [if_neg c] at h
    exact absurd (show (2 : Int) = 0 from h) (by decide)
theorem CI_R {M N : Mem} (h : REq N M) (hC : CI M) : CI N := by
  obtain ⟨a1, a2, a3, a4, a5, a6, a7⟩ := hC
  refine ⟨fun j x y => ?_, fun j x y => ?_, fun j x y => ?_, fun j x y => ?_, fun j x y => ?_, fun j x y => ?_, ?_⟩
  · rw [h j (by omega) (by omega)]; exact a1 j x y
  · rw [h j (by omega) (by omega)]; exact a2 j x y
  · rw [h j (by omega) (by omega)]; exact a3 j x y
  · rw [h j (by omega) (by omega)]; exact a4 j x y
  · rw [h j (by omega) (by omega)]; exact a5 j x y
  · rw [h j (by omega) (by omega)]; exact a6 j x y
  · rw [h 77 (by decide) (by decide)]; exact a7
theorem OI_push {M : Mem} (h : OI M) : OI (fX2_push M) := ⟨CI_of0 (fr_fX2_push rfl rfl) h.1, SI_same (M := M) (fun r hr => by rcases hr with rfl | rfl | rfl | rfl | rfl <;> exact fr_fX2_push rfl rfl) h.2.1, TI_of (fr_fX2_push rfl rfl) (fr_fX2_push rfl rfl) h.2.2.1, HN_push h.2.2.2.1, LN_of (fr_fX2_push rfl rfl) (fr_fX2_push rfl rfl) h.2.2.2.2⟩
theorem OI_empty {M : Mem} (h : OI M) : OI (fX7_empty M) := ⟨CI_of0 (M := M) (fr_fX7_empty rfl) h.1, SI_same (M := M) (fun r hr => by rcases hr with rfl | rfl | rfl | rfl | rfl <;> exact fr_fX7_empty rfl) h.2.1, TI_empty h.2.2.1, HN_of (M := M) (fr_fX7_empty rfl) h.2.2.2.1, LN_of (M := M) (fr_fX7_empty rfl) (fr_fX7_empty rfl) h.2.2.2.2⟩
theorem OI_judge {M : Mem} (h : OI M) (co a b d : Int) : OI (fX5_judge M co a b d).2 := OI_S h (fun r h1 h2 h3 h4 h7 => fr_fX5_judge co a b d (beq_f h1) (beq_f h2) (beq_f h3) (beq_f h4) (beq_f h7)) (SI_judge h.1 h.2.1 co a b d)
theorem OI_carry {M N : Mem} (hM : CI M) (h : OI N) (h0 : N 0 = M 0) {co a b d : Int} (hj : (fX5_judge M co a b d).1 = 0) : OI (fX5_carryOut N co a b d).2 := by
  have f : ∀ r : Nat, r ≠ 0 → r ≠ 1 → r ≠ 2 → r ≠ 3 → r ≠ 4 → r ≠ 7 → (fX5_carryOut N co a b d).2 r = N r := fun r h0 h1 h2 h3 h4 h7 => fr_fX5_carryOut co a b d (beq_f h0) (beq_f h1) (beq_f h2) (beq_f h3) (beq_f h4) (beq_f h7)
  exact ⟨CI_carryOut hM h0 hj, SI_carryOut h.1 h.2.1 co a b d, TI_of (f 10 (by decide) (by decide) (by decide) (by decide) (by decide) (by decide)) (f 11 (by decide) (by decide) (by decide) (by decide) (by decide) (by decide)) h.2.2.1, HN_of (f 9 (by decide) (by decide) (by decide) (by decide) (by decide) (by decide)) h.2.2.2.1, LN_of (f 12 (by decide) (by decide) (by decide) (by decide) (by decide) (by decide)) (f 13 (by decide) (by decide) (by decide) (by decide) (by decide) (by decide)) h.2.2.2.2⟩
/-- cells out of the copy that stands aside -/
theorem back_R {M N : Mem} (h : ∀ j : Int, 0 ≤ j → j < 80 → N 14 j = M 0 j) : REq (fX6_copyFrom_b N) M := fun j a b => by
  show cpI (N 14) (N 0) 0 0 80 j = M 0 j
  unfold cpI
  rw [if_pos ⟨a, by omega⟩, show (0 + (j - 0) : Int) = j by omega]
  exact h j a b
theorem OI_back {M N : Mem} (hM : CI M) (hN : OI N) (h : ∀ j : Int, 0 ≤ j → j < 80 → N 14 j = M 0 j) : OI (fX6_copyFrom_b N) := ⟨CI_R (back_R h) hM, SI_same (M := N) (fun r hr => by rcases hr with rfl | rfl | rfl | rfl | rfl <;> exact fr_fX6_copyFrom_b rfl) hN.2.1, TI_of (M := N) (fr_fX6_copyFrom_b rfl) (fr_fX6_copyFrom_b rfl) hN.2.2.1, HN_of (M := N) (fr_fX6_copyFrom_b rfl) hN.2.2.2.1, LN_of (M := N) (fr_fX6_copyFrom_b rfl) (fr_fX6_copyFrom_b rfl) hN.2.2.2.2⟩
theorem OI_refuse {M : Mem} (h : OI M) (a b : Int) : OI (fX8_refuse M a b) := OI_fr h (fun r _ _ _ _ _ _ _ h18 h19 => fr_fX8_refuse a b (beq_f h18) (beq_f h19))
theorem OI_rdl {M0 : Mem} (hM : CI M0) (M : Mem) : ∀ (k : Nat) (Mx : Mem) (v n s co : Int), OI Mx → (∀ j : Int, 0 ≤ j → j < 80 → Mx 14 j = M0 0 j) → OI (fX8_read_L1 M k Mx v n s co).2.2 := by
  intro k
  induction k with
  | zero => intro Mx v n s co g _; exact g
  | succ k ih =>
    intro Mx v n s co g b
    have E1 : OI (fX2_push (fX7_empty Mx)) := OI_push (OI_empty g)
    have E2 : ∀ x y : Int, OI (fX8_refuse (fX6_copyFrom_b (fX7_empty Mx)) x y) := fun x y => OI_refuse (OI_back hM (OI_empty g) (fun j p q => b j p q)) x y
    rw [fX8_read_L1]
    split
    · split
      · exact E1
      · exact E2 _ _
    split
    · split
      · exact E1
      generalize fX7_argument Mx co s 0 = a0
      generalize fX7_argument Mx co s 1 = a1
      generalize fX7_argument Mx co s 2 = a2
      have bj : ∀ j : Int, 0 ≤ j → j < 80 → (fX5_judge Mx co a0 a1 a2).2 14 j = M0 0 j := fun j p q => by
        rw [show (fX5_judge Mx co a0 a1 a2).2 14 = Mx 14 from fr_fX5_judge _ _ _ _ rfl rfl rfl rfl rfl]
        exact b j p q
      split
      · rename_i hj
        refine ih _ _ _ _ _ (OI_carry g.1 (OI_judge g co a0 a1 a2) (judge_0 Mx co a0 a1 a2) hj) (fun j p q => ?_)
        rw [show (fX5_carryOut (fX5_judge Mx co a0 a1 a2).2 co a0 a1 a2).2 14 = (fX5_judge Mx co a0 a1 a2).2 14 from fr_fX5_carryOut _ _ _ _ rfl rfl rfl rfl rfl rfl]
        exact bj j p q
      · exact ih _ _ _ _ _ (OI_judge g co a0 a1 a2) bj
    · exact E2 _ _
theorem OI_read {M : Mem} (h : OI M) : OI (fX8_read M).2.2 := by
  unfold fX8_read
  split
  · refine OI_rdl h.1 M 62 _ 0 0 0 _ (OI_fr h (fun r _ _ _ h14 _ _ _ _ _ => fr_fX6_copyTo_b (beq_f h14))) (fun j a b => ?_)
    show cpI (M 0) (M 14) 0 0 80 j = M 0 j
    unfold cpI
    rw [if_pos ⟨a, by omega⟩, show (0 + (j - 0) : Int) = j by omega]
  · exact OI_fr (OI_empty h) (fun r _ _ _ _ _ _ h17 _ _ => msf_o (beq_f h17))
theorem OI_put {M : Mem} (h : OI M) (h11 : M 11 0 = 0) (n : Nat) (g : Int → Int) (hn : n ≤ 60) (hg : ∀ i : Int, 0 ≤ i → i < n → 0 ≤ g i ∧ g i < 256) : OI (fL_put M n g) := by
  have f := (put_e h11 n g hn).2
  exact ⟨CI_of0 (f 0 (by decide) (by decide)) h.1, SI_same (fun r hr => by rcases hr with rfl | rfl | rfl | rfl | rfl <;> exact f _ (by decide) (by decide)) h.2.1, put_TI h.2.2.1 h11 n g hn hg, HN_of (f 9 (by decide) (by decide)) h.2.2.2.1, LN_of (f 12 (by decide) (by decide)) (f 13 (by decide) (by decide)) h.2.2.2.2⟩
/-- known cells and a known text -/
def zT (T : Int → Int) (n : Nat) (g : Int → Int) : Mem := fun r j => cond (Nat.beq r 0) (T j) (cond (Nat.beq r 11) (n : Int) (cond (Nat.beq r 10) (g j) 0))
theorem zq_read {T T' : Int → Int} {M : Mem} (h : ZI T M) (n : Nat) (g : Int → Int) (hn : n ≤ 60) (hg : ∀ i : Int, 0 ≤ i → i < n → 0 ≤ g i ∧ g i < 256) {v : Int} (e : (fX8_read (zT T n g)).1 = 0 ∧ (fX8_read (zT T n g)).2.1 = v ∧ (fX8_read (zT T n g)).2.2 11 0 = 0) (e2 : ∀ j : Fin 80, (fX8_read (zT T n g)).2.2 0 (j.val : Int) = T' (j.val : Int)) : OI (fL_put M n g) ∧ ∃ N : Mem, fX8_read (fL_put M n g) = (0, v, N) ∧ ZI T' N := by
  have p := put_e h.2.1 n g hn
  have oi := OI_put h.1 h.2.1 n g hn hg
  have r : REq (fL_put M n g) (zT T n g) := fun j a b => by rw [p.2 0 (by decide) (by decide)]; exact h.2.2 j a b
  have t : TEq (fL_put M n g) (zT T n g) := ⟨p.1.1, fun i a b => p.1.2 i a b⟩
  have q := rd_cc r t e.1
  refine ⟨oi, _, triple q.1 (q.2.1.trans e.2.1) rfl, OI_read oi, q.2.2.2.trans e.2.2, fun j x y => ?_⟩
  obtain ⟨k, rfl⟩ := Int.eq_ofNat_of_zero_le x
  exact (q.2.2.1 (k : Int) x y).trans (e2 ⟨k, by omega⟩)
