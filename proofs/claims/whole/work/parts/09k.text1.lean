/-! THE TEXT of a read: its commands, found alike. -/
/-- the sign at a place; -1 behind the last -/
def tcM (M : Mem) (i : Int) : Int := if M 17 0 ≤ i then -1 else M 4 i
def pkB (fc : Int) (x : Int) : Bool := if fc = 35 then decide (48 ≤ x ∧ x ≤ 57) else if fc = 64 then decide (¬ fX9_foldOf x = 0) else decide (x = fc)
/-- how many signs of a form are there, from s on -/
def mtL (tc : Int → Int) : List Int → Int → Int
  | [], _ => 0
  | fc :: r, s => if pkB fc (tc s) = true then 1 + mtL tc r (s + 1) else 0
def formL (co : Int) : List Int := ([[110, 101, 119, 32, 35], [102, 111, 108, 100, 32, 35, 64], [111, 112, 101, 110, 32, 35], [116, 97, 107, 101, 32, 35], [119, 97, 115, 104, 32, 35], [114, 101, 97, 100, 32, 35], [108, 97, 121, 32, 35, 32, 35], [109, 111, 118, 101, 32, 35, 32, 35, 35], [115, 116, 97, 105, 110, 32, 35, 43, 35]] : List (List Int)).getD co.toNat []
theorem form_d : ∀ co : Fin 9, fX1_length (co.val : Int) = (formL (co.val : Int)).length ∧ 5 ≤ (formL (co.val : Int)).length ∧ (formL (co.val : Int)).length ≤ 9 := by decide +kernel
theorem sign_d : ∀ co : Fin 9, ∀ i : Fin 9, i.val < (formL (co.val : Int)).length → fX1_signAt (co.val : Int) (i.val : Int) = (formL (co.val : Int)).getD i.val 0 := by decide +kernel
theorem form_e {co : Int} (h : 0 ≤ co ∧ co < 9) : fX1_length co = (formL co).length ∧ 5 ≤ (formL co).length ∧ (formL co).length ≤ 9 := by
  obtain ⟨a, rfl⟩ := Int.eq_ofNat_of_zero_le h.1
  exact form_d ⟨a, by omega⟩
theorem sign_e {co : Int} (h : 0 ≤ co ∧ co < 9) {i : Nat} (hi : i < (formL co).length) : fX1_signAt co (i : Int) = (formL co).getD i 0 := by
  have f := form_e h
  obtain ⟨a, rfl⟩ := Int.eq_ofNat_of_zero_le h.1
  exact sign_d ⟨a, by omega⟩ ⟨i, by omega⟩ hi
theorem vo_64 (x : Int) : fX7_valueOf 64 x = if fX9_foldOf x = 0 then -1 else fX9_foldOf x := by
  have s1 : fX8_letterIn_s 1 = 115 := by decide
  have s2 : fX8_letterIn_s 2 = 102 := by decide
  have s3 : fX8_letterIn_s 3 = 98 := by decide
  have s4 : fX8_letterIn_s 4 = 99 := by decide
  unfold fX7_valueOf fX9_foldOf
  have st : ∀ (k : Nat) (f : Int), f ≤ 4 → fX7_valueOf_L1 64 x (k + 1) f = if fX8_letterIn_s f = x then f else fX7_valueOf_L1 64 x k (f + 1) := fun k f hf => by rw [fX7_valueOf_L1, if_neg (by omega)]
  rw [if_neg (show ¬ (64 : Int) = 35 by decide), st 5 1 (by decide), st 4 (1 + 1) (by decide), st 3 (1 + 1 + 1) (by decide), st 2 (1 + 1 + 1 + 1) (by decide), fX7_valueOf_L1, if_pos (show (4 : Int) < 1 + 1 + 1 + 1 + 1 by decide), s1, show (1 : Int) + 1 = 2 from rfl, s2, show (2 : Int) + 1 = 3 from rfl, s3, show (3 : Int) + 1 = 4 from rfl, s4]
  (repeat' split) <;> omega
theorem vo_35 (x : Int) : fX7_valueOf 35 x = if 48 ≤ x ∧ x ≤ 57 then x - 48 else -1 := by
  unfold fX7_valueOf
  rw [if_pos rfl]
  (repeat' split) <;> omega
theorem iof_e (fc x : Int) : fX7_isOfForm fc x = 0 ↔ ¬ pkB fc x = true := by
  unfold fX7_isOfForm pkB
  by_cases h1 : fc = 35
  · rw [if_pos h1, if_pos h1, h1, vo_35]
    by_cases h : 48 ≤ x ∧ x ≤ 57
    · rw [if_pos h, if_neg (by omega), decide_eq_true h]; simp
    · rw [if_neg h, if_pos rfl, decide_eq_false h]; simp
  rw [if_neg h1, if_neg h1]
  by_cases h2 : fc = 64
  · rw [if_pos h2, if_pos h2, h2, vo_64]
    have r : 0 ≤ fX9_foldOf x := by unfold fX9_foldOf; (repeat' split) <;> decide
    by_cases h : fX9_foldOf x = 0
    · rw [if_pos h, if_pos rfl]; simp [h]
    · rw [if_neg h, if_neg (by omega)]; simp [h]
  rw [if_neg h2, if_neg h2]
  by_cases h : fc = x
  · rw [if_pos h]; simp [h]
  · rw [if_neg h]
    have : ¬ x = fc := fun q => h q.symm
    simp [this]
theorem pk_neg {fc : Int} (h : 0 ≤ fc) : ¬ pkB fc (-1) = true := by
  unfold pkB
  (repeat' split) <;> simp <;> first | decide | omega
theorem formpos_d : ∀ co : Fin 9, ∀ fc ∈ formL (co.val : Int), 0 ≤ fc := by decide +kernel
theorem formpos {co : Int} (h : 0 ≤ co ∧ co < 9) : ∀ fc ∈ formL co, 0 ≤ fc := by
  obtain ⟨a, rfl⟩ := Int.eq_ofNat_of_zero_le h.1
  exact formpos_d ⟨a, by omega⟩
/-- the texts are the same -/
def TX (C G : Mem) : Prop := C 11 0 = G 17 0 ∧ (0 ≤ G 17 0 ∧ G 17 0 ≤ 60) ∧ (∀ j : Int, 0 ≤ j → j < G 17 0 → C 10 j = G 4 j) ∧ ∀ j : Int, 0 ≤ j → j < G 17 0 → 0 ≤ G 4 j ∧ G 4 j < 65536
theorem sg_e {C G : Mem} (h : TX C G) {i : Int} (h0 : 0 ≤ i) (h1 : i < G 17 0) : fX7_signAt C i = tcM G i := by
  unfold fX7_signAt tcM
  rw [h.1, if_neg (by omega), if_neg (by omega), if_neg (by have := h.2.1; omega), if_neg (by omega)]
  exact h.2.2.1 i h0 h1
theorem mat_L {C G : Mem} (h : TX C G) {co s : Int} (hc : 0 ≤ co ∧ co < 9) (hs : 0 ≤ s) : ∀ (k i : Nat), i ≤ (formL co).length → (formL co).length - i < k → fX7_matched_L1 C co s k i = i + mtL (tcM G) ((formL co).drop i) (s + i) := by
  have f := form_e hc
  intro k
  induction k with
  | zero => intro i _ h; omega
  | succ k ih =>
    intro i h1 h2
    rw [fX7_matched_L1, f.1, h.1]
    by_cases hl : ((formL co).length : Int) ≤ i
    · rw [if_pos hl, List.drop_eq_nil_of_le (by omega)]
      show (i : Int) = i + 0
      omega
    · have hi : i < (formL co).length := by omega
      have ed : (formL co).drop i = (formL co).getD i 0 :: (formL co).drop (i + 1) := by
        rw [List.drop_eq_getElem_cons hi, List.getD_eq_getElem?_getD, List.getElem?_eq_getElem hi]
        rfl
      have fp := formpos hc _ (getD_in (d := 0) hi)
      rw [if_neg hl, ed, mtL]
      by_cases hg : G 17 0 ≤ s + i
      · rw [if_pos hg, show tcM G (s + i) = -1 from if_pos hg, if_neg (pk_neg fp)]
        omega
      · rw [if_neg hg, sign_e hc hi, sg_e h (by omega) (by omega)]
        by_cases hp : pkB ((formL co).getD i 0) (tcM G (s + i)) = true
        · rw [if_neg (fun q => (iof_e _ _).mp q hp), if_pos hp]
          have q := ih (i + 1) (by omega) (by omega)
          rw [show ((i + 1 : Nat) : Int) = (i : Int) + 1 from rfl] at q
          rw [q, show s + ((i : Int) + 1) = s + i + 1 by omega]
          omega
        · rw [if_pos ((iof_e _ _).mpr hp), if_neg hp]
          omega
theorem mat_e {C G : Mem} (h : TX C G) {co s : Int} (hc : 0 ≤ co ∧ co < 9) (hs : 0 ≤ s) : fX7_matched C co s = mtL (tcM G) (formL co) s := by
  have f := form_e hc
  have q := mat_L h hc hs 11 0 (Nat.zero_le _) (by omega)
  have e : fX7_matched C co s = fX7_matched_L1 C co s 11 ((0 : Nat) : Int) := rfl
  rw [e, q]
  show (0 : Int) + mtL (tcM G) (formL co) (s + 0) = _
  rw [Int.zero_add, Int.add_zero]
theorem mt_r (tc : Int → Int) : ∀ (L : List Int) (s : Int), 0 ≤ mtL tc L s ∧ mtL tc L s ≤ L.length := by
  intro L
  induction L with
  | nil => intro s; exact ⟨(by decide : (0 : Int) ≤ 0), (by decide : (0 : Int) ≤ 0)⟩
  | cons fc r ih =>
    intro s
    rw [mtL, List.length_cons]
    have := ih (s + 1)
    split <;> omega
theorem mt_in (G : Mem) : ∀ (L : List Int) (s : Int), (∀ fc ∈ L, 0 ≤ fc) → 0 < L.length → mtL (tcM G) L s = L.length → s + L.length ≤ G 17 0 := by
  intro L
  induction L with
  | nil => intro s _ h; exact absurd h (by decide)
  | cons fc r ih =>
    intro s hp _ h
    rw [mtL, List.length_cons] at h
    rw [List.length_cons]
    have r1 := mt_r (tcM G) r (s + 1)
    split at h
    · rename_i hk
      by_cases hr : 0 < r.length
      · have := ih (s + 1) (fun x hx => hp x (List.mem_cons_of_mem _ hx)) hr (by omega)
        omega
      · by_cases hg : G 17 0 ≤ s
        · rw [show tcM G s = -1 from if_pos hg] at hk
          exact absurd hk (pk_neg (hp fc List.mem_cons_self))
        · omega
    · omega
def letC (co : Int) : Int := ([110, 102, 111, 116, 119, 114, 108, 109, 115] : List Int).getD co.toNat 0
theorem let_d : ∀ co : Fin 9, ∃ r : List Int, formL (co.val : Int) = letC (co.val : Int) :: r ∧ ¬ letC (co.val : Int) = 35 ∧ ¬ letC (co.val : Int) = 64 := by
  intro co
  match co with
  | 0 => exact ⟨_, rfl, by decide, by decide⟩
  | 1 => exact ⟨_, rfl, by decide, by decide⟩
  | 2 => exact ⟨_, rfl, by decide, by decide⟩
  | 3 => exact ⟨_, rfl, by decide, by decide⟩
  | 4 => exact ⟨_, rfl, by decide, by decide⟩
  | 5 => exact ⟨_, rfl, by decide, by decide⟩
  | 6 => exact ⟨_, rfl, by decide, by decide⟩
  | 7 => exact ⟨_, rfl, by decide, by decide⟩
  | 8 => exact ⟨_, rfl, by decide, by decide⟩
theorem mat_0 {C G : Mem} (h : TX C G) {co s : Int} (hc : 0 ≤ co ∧ co < 9) (hs : 0 ≤ s) (hl : ¬ tcM G s = letC co) : fX7_matched C co s = 0 := by
  rw [mat_e h hc hs]
  obtain ⟨a, rfl⟩ := Int.eq_ofNat_of_zero_le hc.1
  obtain ⟨r, e, n1, n2⟩ := let_d ⟨a, by omega⟩
  have e' : formL (a : Int) = letC (a : Int) :: r := e
  rw [e', mtL, if_neg]
  unfold pkB
  rw [if_neg n1, if_neg n2]
  simp [hl]
theorem let_inj : ∀ a b : Fin 9, letC (a.val : Int) = letC (b.val : Int) → a = b := by decide +kernel
theorem let_i {a b : Int} (ha : 0 ≤ a ∧ a < 9) (hb : 0 ≤ b ∧ b < 9) (h : letC a = letC b) : a = b := by
  obtain ⟨x, rfl⟩ := Int.eq_ofNat_of_zero_le ha.1
  obtain ⟨y, rfl⟩ := Int.eq_ofNat_of_zero_le hb.1
  have := let_inj ⟨x, by omega⟩ ⟨y, by omega⟩ h
  exact congrArg (fun z : Fin 9 => (z.val : Int)) this
/-- the command at s, if its first sign is that of co -/
theorem cmd_L {C G : Mem} (h : TX C G) {co s : Int} (hc : 0 ≤ co ∧ co < 9) (hs : 0 ≤ s) (hl : tcM G s = letC co) : ∀ (k : Nat) (i : Int), 0 ≤ i → i ≤ 9 → 9 - i < k → fX7_commandAt_L1 C s k i = if i ≤ co ∧ mtL (tcM G) (formL co) s = (formL co).length then co else -1 := by
  intro k
  induction k with
  | zero => intro i _ _ _; omega
  | succ k ih =>
    intro i h0 h1 h2
    rw [fX7_commandAt_L1]
    by_cases h9 : 9 ≤ i
    · rw [if_pos h9, if_neg (by omega)]
    · rw [if_neg h9, (form_e (co := i) ⟨h0, by omega⟩).1]
      by_cases hi : i = co
      · subst hi
        rw [mat_e h hc hs]
        by_cases hm : mtL (tcM G) (formL i) s = (formL i).length
        · rw [if_pos hm, if_pos ⟨Int.le_refl _, hm⟩]
        · rw [if_neg hm, ih _ (by omega) (by omega) (by omega), if_neg (by omega), if_neg (fun q => hm q.2)]
      · have f := form_e (co := i) ⟨h0, by omega⟩
        rw [mat_0 h ⟨h0, by omega⟩ hs (fun q => hi (let_i ⟨h0, by omega⟩ hc (q.symm.trans hl))), if_neg (by omega), ih _ (by omega) (by omega) (by omega)]
        by_cases hm : i + 1 ≤ co ∧ mtL (tcM G) (formL co) s = (formL co).length
        · rw [if_pos hm, if_pos ⟨by omega, hm.2⟩]
        · rw [if_neg hm, if_neg (fun q => hm ⟨by omega, q.2⟩)]
theorem cmd_e {C G : Mem} (h : TX C G) {co s : Int} (hc : 0 ≤ co ∧ co < 9) (hs : 0 ≤ s) (hl : tcM G s = letC co) : fX7_commandAt C s = if mtL (tcM G) (formL co) s = (formL co).length then co else -1 := by
  have q := cmd_L h hc hs hl 10 0 (by decide) (by decide) (by decide)
  unfold fX7_commandAt
  rw [q]
  by_cases hm : mtL (tcM G) (formL co) s = (formL co).length
  · rw [if_pos hm, if_pos ⟨hc.1, hm⟩]
  · rw [if_neg hm, if_neg (fun q => hm q.2)]
theorem cmd_n {C G : Mem} (h : TX C G) {s : Int} (hs : 0 ≤ s) (hl : ∀ co : Int, 0 ≤ co → co < 9 → ¬ tcM G s = letC co) : ∀ (k : Nat) (i : Int), 0 ≤ i → 9 - i < k → 0 < (k : Int) → fX7_commandAt_L1 C s k i = -1 := by
  intro k
  induction k with
  | zero => intro i _ _ h; exact absurd h (by decide)
  | succ k ih =>
    intro i h0 h1 _
    rw [fX7_commandAt_L1]
    by_cases h9 : 9 ≤ i
    · rw [if_pos h9]
    · have f := form_e (co := i) ⟨h0, by omega⟩
      rw [if_neg h9, mat_0 h ⟨h0, by omega⟩ hs (hl i h0 (by omega)), if_neg (by omega)]
      exact ih _ (by omega) (by omega) (by omega)
theorem lng_L {C G : Mem} (h : TX C G) {co s : Int} (hc : 0 ≤ co ∧ co < 9) (hs : 0 ≤ s) (hl : tcM G s = letC co) : ∀ (k : Nat) (m i : Int), 0 ≤ i → i ≤ 9 → 9 - i < k → 0 ≤ m → fX7_longestMatch_L1 C s k m i = if i ≤ co then zmax m (mtL (tcM G) (formL co) s) else m := by
  intro k
  induction k with
  | zero => intro m i _ _ _; omega
  | succ k ih =>
    intro m i h0 h1 h2 hm
    rw [fX7_longestMatch_L1]
    by_cases h9 : 9 ≤ i
    · rw [if_pos h9, if_neg (by omega)]
    · rw [if_neg h9]
      by_cases hi : i = co
      · subst hi
        have z := zmax_r m (mtL (tcM G) (formL i) s)
        rw [mat_e h hc hs, ih _ _ (by omega) (by omega) (by omega) (by omega), if_neg (by omega), if_pos (Int.le_refl _)]
      · have z : zmax m 0 = m := by unfold zmax; rw [if_neg (by omega)]
        rw [mat_0 h ⟨h0, by omega⟩ hs (fun q => hi (let_i ⟨h0, by omega⟩ hc (q.symm.trans hl))), z, ih _ _ (by omega) (by omega) (by omega) hm]
        by_cases hx : i + 1 ≤ co
        · rw [if_pos hx, if_pos (by omega)]
        · rw [if_neg hx, if_neg (by omega)]
theorem lng_e {C G : Mem} (h : TX C G) {co s : Int} (hc : 0 ≤ co ∧ co < 9) (hs : 0 ≤ s) (hl : tcM G s = letC co) : fX7_longestMatch C s = mtL (tcM G) (formL co) s := by
  unfold fX7_longestMatch
  have r := mt_r (tcM G) (formL co) s
  rw [lng_L h hc hs hl 10 0 0 (by decide) (by decide) (by decide) (by decide), if_pos hc.1]
  unfold zmax
  split <;> omega
theorem lng_n {C G : Mem} (h : TX C G) {s : Int} (hs : 0 ≤ s) (hl : ∀ co : Int, 0 ≤ co → co < 9 → ¬ tcM G s = letC co) : ∀ (k : Nat) (i : Int), 0 ≤ i → 9 - i < k → 0 < (k : Int) → fX7_longestMatch_L1 C s k 0 i = 0 := by
  intro k
  induction k with
  | zero => intro i _ _ h; exact absurd h (by decide)
  | succ k ih =>
    intro i h0 h1 _
    rw [fX7_longestMatch_L1]
    by_cases h9 : 9 ≤ i
    · rw [if_pos h9]
    · rw [if_neg h9, mat_0 h ⟨h0, by omega⟩ hs (hl i h0 (by omega)), show zmax 0 0 = 0 from by decide]
      exact ih _ (by omega) (by omega) (by omega)
/-! the model's steps -/
def stp (tc : Int → Int) (fc : Int) (x : Int × Int) : Int × Int := if x.1 = 0 then (if pkB fc (tc x.2) = true then (0, x.2 + 1) else (1, x.2)) else (1, x.2)
def stps (tc : Int → Int) : List Int → Int × Int → Int × Int
  | [], x => x
  | fc :: r, x => stps tc r (stp tc fc x)
def bq (M : Mem) : Int × Int := (M 28 0, M 27 0)
theorem stps_1 (tc : Int → Int) : ∀ (L : List Int) (q : Int), stps tc L (1, q) = (1, q) := by
  intro L
  induction L with
  | nil => intro q; rfl
  | cons fc r ih => intro q; rw [stps, show stp tc fc (1, q) = (1, q) from rfl, ih]
theorem stps_0 (tc : Int → Int) : ∀ (L : List Int) (q : Int), stps tc L (0, q) = if mtL tc L q = L.length then (0, q + L.length) else (1, q + mtL tc L q) := by
  intro L
  induction L with
  | nil => intro q; show (0, q) = if (0 : Int) = 0 then (0, q + 0) else _; rw [if_pos rfl, Int.add_zero]
  | cons fc r ih =>
    intro q
    have m := mt_r tc r (q + 1)
    rw [stps, mtL, List.length_cons]
    unfold stp
    dsimp only
    rw [if_pos rfl]
    by_cases hp : pkB fc (tc q) = true
    · rw [if_pos hp, if_pos hp, ih]
      by_cases he : mtL tc r (q + 1) = r.length
      · rw [if_pos he, if_pos (by omega), show q + 1 + (r.length : Int) = q + ((r.length + 1 : Nat) : Int) by omega]
      · rw [if_neg he, if_neg (by omega), show q + 1 + mtL tc r (q + 1) = q + (1 + mtL tc r (q + 1)) by omega]
    · rw [if_neg hp, if_neg hp, stps_1, if_neg (by omega), Int.add_zero]
theorem here_e (M : Mem) : fX9_here M = tcM M (M 27 0) := rfl
theorem pk_pl {c x : Int} (h1 : ¬ c = 35) (h2 : ¬ c = 64) : (pkB c x = true) ↔ x = c := by
  unfold pkB
  rw [if_neg h1, if_neg h2]
  simp
theorem bq_needs (M : Mem) {c : Int} (h1 : ¬ c = 35) (h2 : ¬ c = 64) : bq (fX9_needs M c) = stp (tcM M) c (bq M) := by
  unfold fX9_needs stp bq
  dsimp only
  rw [here_e]
  by_cases hb : M 28 0 = 0
  · rw [if_pos hb, if_pos hb]
    by_cases hh : tcM M (M 27 0) = c
    · rw [if_pos hh, if_pos ((pk_pl h1 h2).mpr hh)]
      rfl
    · rw [if_neg hh, if_neg (fun q => hh ((pk_pl h1 h2).mp q))]
      show ((1 : Int), M 27 0 + 0) = _
      rw [Int.add_zero]
  · rw [if_neg hb, if_neg hb]
    show ((1 : Int), M 27 0 + 0) = _
    rw [Int.add_zero]
theorem bq_figure (M : Mem) : bq (fX9_figure M).2 = stp (tcM M) 35 (bq M) := by
  unfold fX9_figure stp bq
  dsimp only
  rw [here_e]
  have d := dX9_in (tcM M (M 27 0)) 48 57
  have pe : (pkB 35 (tcM M (M 27 0)) = true) ↔ (48 ≤ tcM M (M 27 0) ∧ tcM M (M 27 0) ≤ 57) := by unfold pkB; rw [if_pos rfl]; simp
  by_cases hb : M 28 0 = 0
  · rw [if_pos hb, if_pos hb]
    by_cases hh : fX9_in (tcM M (M 27 0)) 48 57 = 0
    · rw [if_pos hh, if_neg (fun q => by have := pe.mp q; omega)]
      show ((1 : Int), M 27 0 + 0) = _
      rw [Int.add_zero]
    · rw [if_neg hh, if_pos (pe.mpr (by omega))]
      rfl
  · rw [if_neg hb, if_neg hb]
    show ((1 : Int), M 27 0 + 0) = _
    rw [Int.add_zero]
theorem bq_fold (M : Mem) : bq (fX9_foldHere M).2 = stp (tcM M) 64 (bq M) := by
  unfold fX9_foldHere stp bq
  dsimp only
  rw [here_e]
  have pe : (pkB 64 (tcM M (M 27 0)) = true) ↔ ¬ fX9_foldOf (tcM M (M 27 0)) = 0 := by unfold pkB; rw [if_neg (by decide), if_pos rfl]; simp
  by_cases hb : M 28 0 = 0
  · rw [if_pos hb, if_pos hb]
    by_cases hh : fX9_foldOf (tcM M (M 27 0)) = 0
    · rw [if_pos hh, if_neg (fun q => pe.mp q hh)]
      show ((1 : Int), M 27 0 + 0) = _
      rw [Int.add_zero]
    · rw [if_neg hh, if_pos (pe.mpr hh)]
      rfl
  · rw [if_neg hb, if_neg hb]
    show ((1 : Int), M 27 0 + 0) = _
    rw [Int.add_zero]
theorem tc_of {A B : Mem} (h4 : A 4 = B 4) (h17 : A 17 = B 17) : tcM A = tcM B := by
  funext i
  unfold tcM
  rw [h4, h17]
theorem fig_v {M : Mem} (hb : (stp (tcM M) 35 (bq M)).1 = 0) : (fX9_figure M).1 = tcM M (M 27 0) - 48 := by
  have e := bq_figure M
  rw [← e] at hb
  unfold fX9_figure bq at *
  rw [here_e] at *
  by_cases h0 : M 28 0 = 0
  · rw [if_pos h0] at hb ⊢
    by_cases hh : fX9_in (tcM M (M 27 0)) 48 57 = 0
    · rw [if_pos hh] at hb
      exact absurd (show (1 : Int) = 0 from hb) (by decide)
    · rw [if_neg hh]
  · rw [if_neg h0] at hb
    exact absurd (show (1 : Int) = 0 from hb) (by decide)
theorem fol_v (M : Mem) : (fX9_foldHere M).1 = fX9_foldOf (tcM M (M 27 0)) := by
  unfold fX9_foldHere
  rw [here_e]
  (repeat' split) <;> rfl
/-! the class's arguments -/
def argL (C : Mem) (s num : Int) : List Int → Int → Int → Int
  | [], _, _ => 0
  | fc :: r, seen, idx => if fc = 35 then (if seen = num then fX7_valueOf fc (fX7_signAt C (s + idx)) else argL C s num r (seen + 1) (idx + 1)) else if fc = 64 then (if seen = num then fX7_valueOf fc (fX7_signAt C (s + idx)) else argL C s num r (seen + 1) (idx + 1)) else argL C s num r seen (idx + 1)
theorem arg_L (C : Mem) {co : Int} (hc : 0 ≤ co ∧ co < 9) (s num : Int) : ∀ (k i : Nat) (seen : Int), i ≤ (formL co).length → (formL co).length - i < k → fX7_argument_L1 C co s num k seen i = argL C s num ((formL co).drop i) seen i := by
  have f := form_e hc
  intro k
  induction k with
  | zero => intro i seen _ h; omega
  | succ k ih =>
    intro i seen h1 h2
    rw [fX7_argument_L1, f.1]
    by_cases hl : ((formL co).length : Int) ≤ i
    · rw [if_pos hl, List.drop_eq_nil_of_le (by omega)]
      rfl
    · have hi : i < (formL co).length := by omega
      have ed : (formL co).drop i = (formL co).getD i 0 :: (formL co).drop (i + 1) := by
        rw [List.drop_eq_getElem_cons hi, List.getD_eq_getElem?_getD, List.getElem?_eq_getElem hi]
        rfl
      have e1 : ∀ x : Int, fX7_argument_L1 C co s num k x ((i : Int) + 1) = argL C s num ((formL co).drop (i + 1)) x ((i : Int) + 1) := fun x => ih (i + 1) x (by omega) (by omega)
      rw [if_neg hl, ed, argL, sign_e hc hi, e1, e1]
theorem arg_e (C : Mem) {co : Int} (hc : 0 ≤ co ∧ co < 9) (s num : Int) : fX7_argument C co s num = argL C s num (formL co) 0 0 := by
  have f := form_e hc
  exact arg_L C hc s num 11 0 0 (Nat.zero_le _) (by omega)
