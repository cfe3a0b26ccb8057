/-! SETS THAT ARE OPENED, and the points' costs: the fewest, both ways. -/
theorem zbit_d : ∀ o : Fin 64, ∀ i : Fin 6, zand (zshr (o.val : Int) (i.val : Int)) 1 = 0 ∨ zand (zshr (o.val : Int) (i.val : Int)) 1 = 1 := by decide +kernel
theorem zbit {o i : Int} (ho : 0 ≤ o ∧ o < 64) (hi : 0 ≤ i ∧ i < 6) : zand (zshr o i) 1 = 0 ∨ zand (zshr o i) 1 = 1 := by
  obtain ⟨a, rfl⟩ := Int.eq_ofNat_of_zero_le ho.1
  obtain ⟨b, rfl⟩ := Int.eq_ofNat_of_zero_le hi.1
  exact zbit_d ⟨a, by omega⟩ ⟨b, by omega⟩
def bsum (o : Int) : Nat → Int → Int
  | 0, _ => 0
  | m + 1, i => zand (zshr o i) 1 + bsum o m (i + 1)
theorem bc_d : ∀ n : Fin 7, ∀ o : Fin 64, o.val < 2 ^ n.val → fJ6_bitCount_0f7a4 (o.val : Int) = bsum (o.val : Int) n.val 0 ∧ 0 ≤ bsum (o.val : Int) n.val 0 := by decide +kernel
theorem p2_d : ∀ n : Fin 7, zshl 1 (n.val : Int) = ((2 ^ n.val : Nat) : Int) ∧ (2 ^ n.val : Nat) ≤ 64 ∧ 1 ≤ (2 ^ n.val : Nat) := by decide +kernel
theorem p2 {n : Int} (h : 0 ≤ n ∧ n ≤ 6) : zshl 1 n = ((2 ^ n.toNat : Nat) : Int) ∧ (2 ^ n.toNat : Nat) ≤ 64 ∧ 1 ≤ (2 ^ n.toNat : Nat) := by
  obtain ⟨a, rfl⟩ := Int.eq_ofNat_of_zero_le h.1
  exact p2_d ⟨a, by omega⟩
theorem bc {n o : Int} (h : 0 ≤ n ∧ n ≤ 6) (ho : 0 ≤ o) (ho2 : o < zshl 1 n) : fJ6_bitCount_0f7a4 o = bsum o n.toNat 0 ∧ 0 ≤ bsum o n.toNat 0 := by
  have p := p2 h
  obtain ⟨a, rfl⟩ := Int.eq_ofNat_of_zero_le h.1
  obtain ⟨b, rfl⟩ := Int.eq_ofNat_of_zero_le ho
  rw [p.1] at ho2
  have q : b < 2 ^ (a : Int).toNat := by omega
  exact bc_d ⟨a, by omega⟩ ⟨b, by omega⟩ q
theorem lo_L {N G : Mem} {t : Int} (h : HS N G t) {o : Int} (ho : 0 ≤ o ∧ o < 64) : ∀ (k k' : Nat) (p s c i : Int), 0 ≤ i → i ≤ fX9_countOf G t 0 → fX9_countOf G t 0 - i < k → fX9_countOf G t 0 - i < k' → PS p s → fX9_leftOut_L1 G t o k' s c i = if fX4_isEnd (fX4_pointAtEnd_L1 N o k p i) = 0 then -1 else c + bsum o (fX9_countOf G t 0 - i).toNat i := by
  intro k
  induction k with
  | zero => intro k' p s c i _ _ _ _ _; omega
  | succ k ih =>
    intro k' p s c i h0 h1 h2 h3 hp
    cases k' with
    | zero => omega
    | succ k' =>
      have n := h.2.1
      rw [fX9_leftOut_L1, fX4_pointAtEnd_L1, h.1]
      by_cases hc : fX9_countOf G t 0 ≤ i
      · rw [if_pos hc, if_pos hc, PS_end hp, show (fX9_countOf G t 0 - i).toNat = 0 by omega]
        show _ = if fX9_isEnd s = 0 then -1 else c + 0
        rw [Int.add_zero]
      · rw [if_neg hc, if_neg hc, (h.2.2 i h0 (by omega)).1, show (fX9_countOf G t 0 - i).toNat = (fX9_countOf G t 0 - (i + 1)).toNat + 1 by omega, bsum]
        have z := PS_step hp (h.2.2 i h0 (by omega)).2.2.2.2.1
        rcases zbit ho (i := i) (by omega) with e | e
        · rw [e, if_neg (show ¬ (0 : Int) = 1 by decide), if_pos (show (0 : Int) = 0 from rfl), ih _ _ _ _ _ (by omega) (by omega) (by omega) (by omega) z, show c + 0 + bsum o (fX9_countOf G t 0 - (i + 1)).toNat (i + 1) = c + (0 + bsum o (fX9_countOf G t 0 - (i + 1)).toNat (i + 1)) by omega]
        · rw [e, if_pos (show (1 : Int) = 1 from rfl), if_neg (show ¬ (1 : Int) = 0 by decide), ih _ _ _ _ _ (by omega) (by omega) (by omega) (by omega) hp, show c + 1 + bsum o (fX9_countOf G t 0 - (i + 1)).toNat (i + 1) = c + (1 + bsum o (fX9_countOf G t 0 - (i + 1)).toNat (i + 1)) by omega]
theorem lo_e {N G : Mem} {t : Int} (h : HS N G t) {o : Int} (ho : 0 ≤ o) (ho2 : o < zshl 1 (fX9_countOf G t 0)) : fX9_leftOut G t o = if fX4_isEnd (fX4_pointAtEnd N o) = 0 then -1 else fJ6_bitCount_0f7a4 o := by
  have n := h.2.1
  have p := p2 n
  have b := bc n ho ho2
  have q := lo_L h (o := o) ⟨ho, by omega⟩ 8 7 0 0 0 0 (by decide) n.1 (by omega) (by omega) PS_0
  unfold fX9_leftOut fX4_pointAtEnd
  rw [q, b.1, show fX9_countOf G t 0 - 0 = fX9_countOf G t 0 by omega, Int.zero_add]
theorem few_L {N G : Mem} {t : Int} (h : HS N G t) : ∀ (k k' : Nat) (f o : Int), 0 ≤ o → o ≤ zshl 1 (fX9_countOf G t 0) → zshl 1 (fX9_countOf G t 0) - o < k → zshl 1 (fX9_countOf G t 0) - o < k' → fX4_fewestBySets_L1 N k f o = fX9_fewestOf_L1 G t k' f o := by
  have n := h.2.1
  have p := p2 n
  intro k
  induction k with
  | zero => intro k' f o _ _ _ _; omega
  | succ k ih =>
    intro k' f o h0 h1 h2 h3
    cases k' with
    | zero => omega
    | succ k' =>
      rw [fX4_fewestBySets_L1, fX9_fewestOf_L1, h.1]
      by_cases hc : zshl 1 (fX9_countOf G t 0) ≤ o
      · rw [if_pos hc, if_pos hc]
        split <;> rfl
      · rw [if_neg hc, if_neg hc, if_neg (by omega : ¬ (64 : Int) ≤ o)]
        have e := lo_e h h0 (by omega)
        have b := bc n h0 (by omega)
        by_cases hz : fX4_isEnd (fX4_pointAtEnd N o) = 0
        · rw [if_pos hz] at e
          rw [if_pos hz, if_pos e]
          exact ih _ _ _ (by omega) (by omega) (by omega) (by omega)
        · rw [if_neg hz] at e
          rw [if_neg hz, if_neg (show ¬ fX9_leftOut G t o = -1 by omega), e]
          have r : ∀ f' : Int, fX4_fewestBySets_L1 N k f' (o + 1) = fX9_fewestOf_L1 G t k' f' (o + 1) := fun f' => ih _ _ _ (by omega) (by omega) (by omega) (by omega)
          rw [r, r]
theorem few_e {N G : Mem} {t : Int} (h : HS N G t) : fX4_fewestBySets N = fX9_fewestOf G t := by
  have n := h.2.1
  have p := p2 n
  exact few_L h 65 66 (-1) 0 (by decide) (by omega) (by omega) (by omega)
/-! what could come next -/
theorem stp_L {N G : Mem} {t : Int} (h : HS N G t) : ∀ (k k' : Nat) (p s i : Int), 0 ≤ i → i ≤ fX9_countOf G t 0 → fX9_countOf G t 0 - i < k → fX9_countOf G t 0 - i < k' → PS p s → PS (fX4_pointAtEnd_L1 N 0 k p i) (fX9_stateOf_L1 G t k' s i) := by
  intro k
  induction k with
  | zero => intro k' p s i _ _ _ _ _; omega
  | succ k ih =>
    intro k' p s i h0 h1 h2 h3 hp
    cases k' with
    | zero => omega
    | succ k' =>
      have n := h.2.1
      rw [fX4_pointAtEnd_L1, fX9_stateOf_L1, h.1]
      by_cases hc : fX9_countOf G t 0 ≤ i
      · rw [if_pos hc, if_pos hc]
        exact hp
      · have z : ∀ i : Fin 6, zand (zshr 0 (i.val : Int)) 1 = 0 := by decide +kernel
        have e : zand (zshr 0 i) 1 = 0 := by
          obtain ⟨b, rfl⟩ := Int.eq_ofNat_of_zero_le h0
          exact z ⟨b, by omega⟩
        rw [if_neg hc, if_neg hc, if_pos e, (h.2.2 i h0 (by omega)).1]
        exact ih _ _ _ _ (by omega) (by omega) (by omega) (by omega) (PS_step hp (h.2.2 i h0 (by omega)).2.2.2.2.1)
theorem stp_e {N G : Mem} {t : Int} (h : HS N G t) : PS (fX4_pointAtEnd N 0) (fX9_stateOf G t) := stp_L h 8 7 0 0 0 (by decide) h.2.1.1 (by have := h.2.1; omega) (by have := h.2.1; omega) PS_0
theorem zor0_d : ∀ a : Fin 32, zor (a.val : Int) 0 = (a.val : Int) := by decide +kernel
theorem nx_d : ∀ p : Fin 5, (fun (s : Int) (pp : Int) => zor (zor (zor (zor 0 (if fX9_goesOn s 1 = 4 then 0 else zshl 1 1)) (if fX9_goesOn s 2 = 4 then 0 else zshl 1 2)) (if fX9_goesOn s 3 = 4 then 0 else zshl 1 3)) (if fX9_goesOn s 4 = 4 then 0 else zshl 1 4) = (fun a => (fun b => (fun c => if fX4_pointAfter pp 4 = -1 then c else zor c (zshl 1 4)) (if fX4_pointAfter pp 3 = -1 then b else zor b (zshl 1 3))) (if fX4_pointAfter pp 2 = -1 then a else zor a (zshl 1 2))) (if fX4_pointAfter pp 1 = -1 then 0 else zor 0 (zshl 1 1))) (p.val : Int) (if p.val = 4 then -1 else (p.val : Int)) := by decide +kernel
theorem nxm_u (G : Mem) (t : Int) : ∀ s : Int, s = fX9_stateOf G t → fX9_next_L1 G t 6 0 1 = fX9_done G (zor (zor (zor (zor 0 (if fX9_goesOn s 1 = 4 then 0 else zshl 1 1)) (if fX9_goesOn s 2 = 4 then 0 else zshl 1 2)) (if fX9_goesOn s 3 = 4 then 0 else zshl 1 3)) (if fX9_goesOn s 4 = 4 then 0 else zshl 1 4)) := by
  intro s hs
  have st : ∀ (k : Nat) (a f : Int), f ≤ 4 → fX9_next_L1 G t (k + 1) a f = fX9_next_L1 G t k (zor a (if fX9_goesOn s f = 4 then 0 else zshl 1 f)) (f + 1) := by
    intro k a f hf
    rw [fX9_next_L1, if_neg (by omega), ← hs]
    split <;> rfl
  rw [st 5 _ _ (by decide), st 4 _ _ (by decide), st 3 _ _ (by decide), st 2 _ _ (by decide), fX9_next_L1, if_pos (by decide)]
  rfl
theorem nxc_u (N : Mem) : ∀ p : Int, p = fX4_pointAtEnd N 0 → fX4_followers N = (fun a => (fun b => (fun c => if fX4_pointAfter p 4 = -1 then c else zor c (zshl 1 4)) (if fX4_pointAfter p 3 = -1 then b else zor b (zshl 1 3))) (if fX4_pointAfter p 2 = -1 then a else zor a (zshl 1 2))) (if fX4_pointAfter p 1 = -1 then 0 else zor 0 (zshl 1 1)) := by
  intro p hp
  have st : ∀ (k : Nat) (a f : Int), f ≤ 4 → fX4_followers_L1 N (k + 1) a f = fX4_followers_L1 N k (if fX4_pointAfter p f = -1 then a else zor a (zshl 1 f)) (f + 1) := by
    intro k a f hf
    rw [fX4_followers_L1, if_neg (by omega), ← hp]
    split <;> rfl
  unfold fX4_followers
  rw [st 5 _ _ (by decide), st 4 _ _ (by decide), st 3 _ _ (by decide), st 2 _ _ (by decide), fX4_followers_L1, if_pos (by decide)]
  rfl
theorem nx_e {N G : Mem} {t : Int} (h : HS N G t) : fX9_next_L1 G t 6 0 1 = fX9_done G (fX4_followers N) := by
  have z := stp_e h
  rw [nxm_u G t _ rfl, nxc_u N _ rfl]
  unfold PS at z
  generalize fX9_stateOf G t = s at z ⊢
  generalize fX4_pointAtEnd N 0 = p at z ⊢
  rcases z with ⟨rfl, a, b⟩ | ⟨rfl, rfl⟩
  · obtain ⟨m, rfl⟩ := Int.eq_ofNat_of_zero_le a
    have q := nx_d ⟨m, by omega⟩
    simp only [show ¬ m = 4 by omega, if_false] at q
    exact congrArg (fX9_done G) q
  · exact congrArg (fX9_done G) (nx_d ⟨4, by decide⟩)
/-! the fewest by a recursion -/
def rm : List Int → Int → Int
  | [], s => if fX9_isEnd s = 1 then 0 else 1000
  | f :: r, s => zmin (1 + rm r s) (rm r (fX9_goesOn s f))
def cob (b : Int → Bool) : List Int → Int → Int → Int
  | [], s, _ => if fX9_isEnd s = 1 then 0 else 1000
  | f :: r, s, i => if b i = true then 1 + cob b r s (i + 1) else cob b r (fX9_goesOn s f) (i + 1)
theorem rm_0 : ∀ (L : List Int) (s : Int), 0 ≤ rm L s := by
  intro L
  induction L with
  | nil => intro s; rw [rm]; split <;> decide
  | cons f r ih => intro s; rw [rm]; have a := ih s; have b := ih (fX9_goesOn s f); have c := zmin_r (1 + rm r s) (rm r (fX9_goesOn s f)); omega
theorem rm_4 : ∀ (L : List Int), rm L 4 = 1000 := by
  intro L
  induction L with
  | nil => decide
  | cons f r ih => rw [rm, goes_4, ih]; decide
theorem cob_r (b : Int → Bool) : ∀ (L : List Int) (s i : Int), 0 ≤ cob b L s i ∧ (cob b L s i ≤ L.length ∨ 1000 ≤ cob b L s i) := by
  intro L
  induction L with
  | nil => intro s i; rw [cob, List.length_nil]; split <;> decide
  | cons f r ih =>
    intro s i
    rw [cob, List.length_cons]
    split
    · have := ih s (i + 1); omega
    · have := ih (fX9_goesOn s f) (i + 1); omega
theorem rm_le (b : Int → Bool) : ∀ (L : List Int) (s i : Int), rm L s ≤ cob b L s i := by
  intro L
  induction L with
  | nil => intro s i; exact Int.le_refl _
  | cons f r ih =>
    intro s i
    rw [cob, rm]
    have c := zmin_r (1 + rm r s) (rm r (fX9_goesOn s f))
    split
    · have := ih s (i + 1); omega
    · have := ih (fX9_goesOn s f) (i + 1); omega
theorem cob_c {b b' : Int → Bool} : ∀ (L : List Int) (s i : Int), (∀ j : Int, i ≤ j → j < i + L.length → b j = b' j) → cob b L s i = cob b' L s i := by
  intro L
  induction L with
  | nil => intro s i _; rfl
  | cons f r ih =>
    intro s i h
    rw [List.length_cons] at h
    rw [cob, cob, h i (by omega) (by omega), ih _ _ (fun j a c => h j (by omega) (by omega)), ih _ _ (fun j a c => h j (by omega) (by omega))]
theorem rm_at : ∀ (L : List Int) (s i : Int), ∃ b : Int → Bool, cob b L s i = rm L s := by
  intro L
  induction L with
  | nil => intro s i; exact ⟨fun _ => true, rfl⟩
  | cons f r ih =>
    intro s i
    rcases (zmin_r (1 + rm r s) (rm r (fX9_goesOn s f))).2.2 with e | e
    · obtain ⟨b, hb⟩ := ih s (i + 1)
      refine ⟨fun j => if j = i then true else b j, ?_⟩
      rw [cob, rm, e, if_pos (by simp), ← hb]
      congr 1
      exact cob_c _ _ _ (fun j a _ => by simp [show ¬ j = i by omega])
    · obtain ⟨b, hb⟩ := ih (fX9_goesOn s f) (i + 1)
      refine ⟨fun j => if j = i then false else b j, ?_⟩
      rw [cob, rm, e, if_neg (by simp), ← hb]
      exact cob_c _ _ _ (fun j a _ => by simp [show ¬ j = i by omega])
/-- a set's number from its bits -/
def setNb (a b c d e f : Bool) (n : Int) : Int := (if (a && decide (0 < n)) = true then 1 else 0) + 2 * (if (b && decide (1 < n)) = true then 1 else 0) + 4 * (if (c && decide (2 < n)) = true then 1 else 0) + 8 * (if (d && decide (3 < n)) = true then 1 else 0) + 16 * (if (e && decide (4 < n)) = true then 1 else 0) + 32 * (if (f && decide (5 < n)) = true then 1 else 0)
def bitL (a b c d e f : Bool) (j : Nat) : Bool := match j with | 0 => a | 1 => b | 2 => c | 3 => d | 4 => e | _ => f
theorem setN_d : ∀ a b c d e f : Bool, ∀ n : Fin 7, 0 ≤ setNb a b c d e f (n.val : Int) ∧ setNb a b c d e f (n.val : Int) < ((2 ^ n.val : Nat) : Int) := by decide +kernel
theorem setN_e : ∀ a b c d e f : Bool, ∀ n : Fin 7, ∀ j : Fin 6, j.val < n.val → zand (zshr (setNb a b c d e f (n.val : Int)) (j.val : Int)) 1 = (if bitL a b c d e f j.val = true then 1 else 0) := by decide +kernel
def setN (b : Int → Bool) (n : Int) : Int := setNb (b 0) (b 1) (b 2) (b 3) (b 4) (b 5) n
theorem setN_b (b : Int → Bool) {n j : Int} (h0 : 0 ≤ j) (h1 : j < n) (hn : n ≤ 6) : zand (zshr (setN b n) j) 1 = (if b j = true then 1 else 0) := by
  obtain ⟨x, rfl⟩ := Int.eq_ofNat_of_zero_le h0
  obtain ⟨y, rfl⟩ := Int.eq_ofNat_of_zero_le (show 0 ≤ n by omega)
  have q := setN_e (b 0) (b 1) (b 2) (b 3) (b 4) (b 5) ⟨y, by omega⟩ ⟨x, by omega⟩ (by show x < y; omega)
  unfold setN
  rw [q]
  have c : x = 0 ∨ x = 1 ∨ x = 2 ∨ x = 3 ∨ x = 4 ∨ x = 5 := by omega
  rcases c with rfl | rfl | rfl | rfl | rfl | rfl <;> rfl
theorem setN_r (b : Int → Bool) {n : Int} (h : 0 ≤ n ∧ n ≤ 6) : 0 ≤ setN b n ∧ setN b n < zshl 1 n := by
  have p := p2 h
  rw [p.1]
  obtain ⟨y, rfl⟩ := Int.eq_ofNat_of_zero_le h.1
  exact setN_d (b 0) (b 1) (b 2) (b 3) (b 4) (b 5) ⟨y, by omega⟩
def bitB (o : Int) : Int → Bool := fun j => decide (zand (zshr o j) 1 = 1)
theorem lom_L {G : Mem} (hG : GI G) {t : Int} (ht : 0 ≤ t ∧ t < 3) (o : Int) : ∀ (k : Nat) (s c i : Int), 0 ≤ i → i ≤ (GL G t).length → ((GL G t).length : Int) - i < k → fX9_leftOut_L1 G t o k s c i = if cob (bitB o) ((FL G t).drop i.toNat) s i < 1000 then c + cob (bitB o) ((FL G t).drop i.toNat) s i else -1 := by
  have z := GL_len hG ht
  have nn := FL_len G t
  intro k
  induction k with
  | zero => intro s c i _ _ _; omega
  | succ k ih =>
    intro s c i h0 h1 h2
    rw [fX9_leftOut_L1, g_size hG ht]
    by_cases hc : ((GL G t).length : Int) ≤ i
    · rw [if_pos hc, FL_end (by omega)]
      have b := bX9_isEnd s
      show _ = if (if fX9_isEnd s = 1 then (0 : Int) else 1000) < 1000 then c + (if fX9_isEnd s = 1 then (0 : Int) else 1000) else -1
      by_cases hs : fX9_isEnd s = 1
      · rw [if_neg (by omega), if_pos hs, if_pos (by decide), Int.add_zero]
      · rw [if_pos (by omega), if_neg hs, if_neg (by decide)]
    · have e : (i + 1).toNat = i.toNat + 1 := by omega
      have r1 := cob_r (bitB o) ((FL G t).drop (i.toNat + 1)) s (i + 1)
      have ln : (((FL G t).drop (i.toNat + 1)).length : Int) ≤ 6 := by rw [List.length_drop]; omega
      rw [if_neg hc, g_foldF hG ht h0 (by omega), FL_drop (k := i.toNat) (by omega), cob]
      by_cases hb : zand (zshr o i) 1 = 1
      · rw [if_pos hb, if_pos (show bitB o i = true from decide_eq_true hb), ih _ _ _ (by omega) (by omega) (by omega), e]
        by_cases hx : cob (bitB o) ((FL G t).drop (i.toNat + 1)) s (i + 1) < 1000
        · rw [if_pos hx, if_pos (by omega)]
          omega
        · rw [if_neg hx, if_neg (by omega)]
      · rw [if_neg hb, if_neg (show ¬ bitB o i = true from fun q => hb (of_decide_eq_true q)), ih _ _ _ (by omega) (by omega) (by omega), e, Int.add_zero]
theorem lom_e {G : Mem} (hG : GI G) {t : Int} (ht : 0 ≤ t ∧ t < 3) (o : Int) : fX9_leftOut G t o = if cob (bitB o) (FL G t) 0 0 < 1000 then cob (bitB o) (FL G t) 0 0 else -1 := by
  have z := GL_len hG ht
  unfold fX9_leftOut
  rw [lom_L hG ht o 7 0 0 0 (by decide) (by omega) (by omega), Int.zero_add]
  rfl
theorem fsp_L {G : Mem} {t : Int} (hG : GI G) (ht : 0 ≤ t ∧ t < 3) : ∀ (k : Nat) (best set : Int), 0 ≤ set → set ≤ zshl 1 (fX9_countOf G t 0) → zshl 1 (fX9_countOf G t 0) - set < k → (best = -1 ∨ 0 ≤ best) →
    (fX9_fewestOf_L1 G t k best set = -1 → best = -1 ∧ ∀ o : Int, set ≤ o → o < zshl 1 (fX9_countOf G t 0) → fX9_leftOut G t o = -1) ∧
    (¬ fX9_fewestOf_L1 G t k best set = -1 → (fX9_fewestOf_L1 G t k best set = best ∨ ∃ o : Int, set ≤ o ∧ o < zshl 1 (fX9_countOf G t 0) ∧ fX9_leftOut G t o = fX9_fewestOf_L1 G t k best set) ∧ (best = -1 ∨ fX9_fewestOf_L1 G t k best set ≤ best) ∧ ∀ o : Int, set ≤ o → o < zshl 1 (fX9_countOf G t 0) → fX9_leftOut G t o = -1 ∨ fX9_fewestOf_L1 G t k best set ≤ fX9_leftOut G t o) := by
  intro k
  induction k with
  | zero => intro best set _ _ _ _; omega
  | succ k ih =>
    intro best set h0 h1 h2 hb
    rw [fX9_fewestOf_L1]
    by_cases hc : zshl 1 (fX9_countOf G t 0) ≤ set
    · rw [if_pos hc]
      exact ⟨fun e => ⟨e, fun o a b => by omega⟩, fun _ => ⟨Or.inl rfl, Or.inr (Int.le_refl _), fun o a b => by omega⟩⟩
    · rw [if_neg hc]
      have l0 : fX9_leftOut G t set = -1 ∨ 0 ≤ fX9_leftOut G t set := by
        rw [lom_e hG ht]
        have := cob_r (bitB set) (FL G t) 0 0
        split <;> omega
      have sp : ∀ o : Int, set ≤ o → o = set ∨ set + 1 ≤ o := fun o a => by omega
      by_cases e1 : fX9_leftOut G t set = -1
      · rw [if_pos e1]
        obtain ⟨a, b⟩ := ih best (set + 1) (by omega) (by omega) (by omega) hb
        refine ⟨fun e => ⟨(a e).1, fun o x y => ?_⟩, fun e => ⟨?_, (b e).2.1, fun o x y => ?_⟩⟩
        · rcases sp o x with rfl | x
          · exact e1
          · exact (a e).2 o x y
        · rcases (b e).1 with q | ⟨o, x, y, z⟩
          · exact Or.inl q
          · exact Or.inr ⟨o, by omega, y, z⟩
        · rcases sp o x with rfl | x
          · exact Or.inl e1
          · exact (b e).2.2 o x y
      · rw [if_neg e1]
        have key : ∀ nb : Int, 0 ≤ nb → (nb = best ∨ nb = fX9_leftOut G t set) → (best = -1 ∨ nb ≤ best) → nb ≤ fX9_leftOut G t set →
            (fX9_fewestOf_L1 G t k nb (set + 1) = -1 → best = -1 ∧ ∀ o : Int, set ≤ o → o < zshl 1 (fX9_countOf G t 0) → fX9_leftOut G t o = -1) ∧
            (¬ fX9_fewestOf_L1 G t k nb (set + 1) = -1 → (fX9_fewestOf_L1 G t k nb (set + 1) = best ∨ ∃ o : Int, set ≤ o ∧ o < zshl 1 (fX9_countOf G t 0) ∧ fX9_leftOut G t o = fX9_fewestOf_L1 G t k nb (set + 1)) ∧ (best = -1 ∨ fX9_fewestOf_L1 G t k nb (set + 1) ≤ best) ∧ ∀ o : Int, set ≤ o → o < zshl 1 (fX9_countOf G t 0) → fX9_leftOut G t o = -1 ∨ fX9_fewestOf_L1 G t k nb (set + 1) ≤ fX9_leftOut G t o) := by
          intro nb n0 n1 n2 n3
          obtain ⟨a, b⟩ := ih nb (set + 1) (by omega) (by omega) (by omega) (Or.inr n0)
          refine ⟨fun e => by have := (a e).1; omega, fun e => ?_⟩
          obtain ⟨b1, b2, b3⟩ := b e
          refine ⟨?_, n2.imp id (fun q => Int.le_trans (b2.resolve_left (fun z => absurd n0 (by rw [z]; decide))) q), fun o x y => ?_⟩
          · rcases b1 with q | ⟨o, x, y, z⟩
            · rcases n1 with n1 | n1
              · exact Or.inl (by omega)
              · exact Or.inr ⟨set, Int.le_refl _, by omega, by omega⟩
            · exact Or.inr ⟨o, by omega, y, z⟩
          · rcases sp o x with rfl | x
            · exact Or.inr (by omega)
            · exact b3 o x y
        by_cases e2 : best = -1
        · rw [if_pos e2]
          exact key _ (by omega) (Or.inr rfl) (Or.inl e2) (Int.le_refl _)
        · rw [if_neg e2]
          by_cases e3 : best ≤ fX9_leftOut G t set
          · rw [if_pos e3]
            exact key _ (by omega) (Or.inl rfl) (Or.inr (Int.le_refl _)) e3
          · rw [if_neg e3]
            exact key _ (by omega) (Or.inr rfl) (Or.inr (by omega)) (Int.le_refl _)
theorem few_rm {G : Mem} {t : Int} (hG : GI G) (ht : 0 ≤ t ∧ t < 3) : fX9_fewestOf G t = if rm (FL G t) 0 < 1000 then rm (FL G t) 0 else -1 := by
  have z := GL_len hG ht
  have n := g_size hG ht
  have nn := FL_len G t
  have p := p2 (n := fX9_countOf G t 0) (by omega)
  obtain ⟨a, b⟩ := fsp_L hG ht 66 (-1) 0 (by decide) (by omega) (by omega) (Or.inl rfl)
  obtain ⟨bb, hbb⟩ := rm_at (FL G t) 0 0
  have r := setN_r bb (n := fX9_countOf G t 0) (by omega)
  have c1 : cob (bitB (setN bb (fX9_countOf G t 0))) (FL G t) 0 0 = rm (FL G t) 0 := by
    rw [← hbb]
    refine cob_c _ _ _ (fun j x y => ?_)
    unfold bitB
    rw [setN_b bb (n := fX9_countOf G t 0) x (by omega) (by omega)]
    cases bb j <;> decide
  have l1 := lom_e hG ht (setN bb (fX9_countOf G t 0))
  rw [c1] at l1
  unfold fX9_fewestOf
  by_cases e : fX9_fewestOf_L1 G t 66 (-1) 0 = -1
  · have q := (a e).2 _ r.1 r.2
    rw [q] at l1
    have r0 := rm_0 (FL G t) 0
    by_cases hx : rm (FL G t) 0 < 1000
    · rw [if_pos hx] at l1
      omega
    · rw [if_neg hx, e]
  · obtain ⟨b1, -, b3⟩ := b e
    rcases b1 with b1 | ⟨o, x, y, w⟩
    · exact absurd b1 e
    · have l2 := lom_e hG ht o
      have le := rm_le (bitB o) (FL G t) 0 0
      have q := b3 _ r.1 r.2
      by_cases hx : rm (FL G t) 0 < 1000
      · rw [if_pos hx] at l1 ⊢
        have r0 := rm_0 (FL G t) 0
        split at l2 <;> omega
      · rw [if_neg hx]
        split at l2 <;> omega
/-! the fewest by points -/
theorem go_1 (M : Mem) : fX4_goOnWith M 1 5 0 = M 5 0 + 1 ∧ fX4_goOnWith M 1 5 1 = zmin (zmin (M 5 1 + 1) (M 5 0)) (M 5 1) ∧ fX4_goOnWith M 1 5 2 = M 5 2 + 1 ∧ fX4_goOnWith M 1 5 3 = M 5 3 + 1 := ⟨rfl, rfl, rfl, rfl⟩
theorem go_2 (M : Mem) : fX4_goOnWith M 2 5 0 = M 5 0 + 1 ∧ fX4_goOnWith M 2 5 1 = M 5 1 + 1 ∧ fX4_goOnWith M 2 5 2 = zmin (M 5 2 + 1) (M 5 1) ∧ fX4_goOnWith M 2 5 3 = M 5 3 + 1 := ⟨rfl, rfl, rfl, rfl⟩
theorem go_3 (M : Mem) : fX4_goOnWith M 3 5 0 = M 5 0 + 1 ∧ fX4_goOnWith M 3 5 1 = M 5 1 + 1 ∧ fX4_goOnWith M 3 5 2 = M 5 2 + 1 ∧ fX4_goOnWith M 3 5 3 = zmin (M 5 3 + 1) (M 5 2) := ⟨rfl, rfl, rfl, rfl⟩
theorem go_4 (M : Mem) : fX4_goOnWith M 4 5 0 = zmin (zmin (M 5 0 + 1) (M 5 2)) (M 5 3) ∧ fX4_goOnWith M 4 5 1 = M 5 1 + 1 ∧ fX4_goOnWith M 4 5 2 = M 5 2 + 1 ∧ fX4_goOnWith M 4 5 3 = M 5 3 + 1 := ⟨rfl, rfl, rfl, rfl⟩
/-- the least of what it costs up to here and from here, 1000 at most -/
def wS (a b c d : Int) (L : List Int) : Int := zmin (zmin (zmin (a + rm L 0) (b + rm L 1)) (zmin (c + rm L 2) (d + rm L 3))) 1000
theorem le_zmin {x a b : Int} : x ≤ zmin a b ↔ x ≤ a ∧ x ≤ b := by
  have := zmin_r a b
  omega
theorem le_zminL {x a u v : Int} : x ≤ a + zmin u v ↔ x ≤ a + u ∧ x ≤ a + v := by
  have := zmin_r u v
  omega
theorem le_zminR {x w u v : Int} : x ≤ zmin u v + w ↔ x ≤ u + w ∧ x ≤ v + w := by
  have := zmin_r u v
  omega
theorem eq_le {a b : Int} (h : ∀ x : Int, x ≤ a ↔ x ≤ b) : a = b := Int.le_antisymm ((h a).mp (Int.le_refl _)) ((h b).mpr (Int.le_refl _))
theorem wS_go {M : Mem} {f : Int} (hf : 1 ≤ f ∧ f ≤ 4) (L : List Int) (h0 : 0 ≤ M 5 0) (h1 : 0 ≤ M 5 1) (h2 : 0 ≤ M 5 2) (h3 : 0 ≤ M 5 3) : wS (fX4_goOnWith M f 5 0) (fX4_goOnWith M f 5 1) (fX4_goOnWith M f 5 2) (fX4_goOnWith M f 5 3) L = wS (M 5 0) (M 5 1) (M 5 2) (M 5 3) (f :: L) ∧ 0 ≤ fX4_goOnWith M f 5 0 ∧ 0 ≤ fX4_goOnWith M f 5 1 ∧ 0 ≤ fX4_goOnWith M f 5 2 ∧ 0 ≤ fX4_goOnWith M f 5 3 := by
  have a : f = 1 ∨ f = 2 ∨ f = 3 ∨ f = 4 := by omega
  have r0 := rm_0 L 0
  have r1 := rm_0 L 1
  have r2 := rm_0 L 2
  have r3 := rm_0 L 3
  have r4 := rm_4 L
  unfold wS
  rcases a with rfl | rfl | rfl | rfl
  · obtain ⟨e0, e1, e2, e3⟩ := go_1 M
    rw [e0, e1, e2, e3, rm, rm, rm, rm, show fX9_goesOn 0 1 = 1 from rfl, show fX9_goesOn 1 1 = 1 from rfl, show fX9_goesOn 2 1 = 4 from rfl, show fX9_goesOn 3 1 = 4 from rfl, r4]
    refine ⟨eq_le (fun x => ?_), ?_, ?_, ?_, ?_⟩ <;> (try simp only [le_zmin, le_zminL, le_zminR]) <;> omega
  · obtain ⟨e0, e1, e2, e3⟩ := go_2 M
    rw [e0, e1, e2, e3, rm, rm, rm, rm, show fX9_goesOn 0 2 = 4 from rfl, show fX9_goesOn 1 2 = 2 from rfl, show fX9_goesOn 2 2 = 4 from rfl, show fX9_goesOn 3 2 = 4 from rfl, r4]
    refine ⟨eq_le (fun x => ?_), ?_, ?_, ?_, ?_⟩ <;> (try simp only [le_zmin, le_zminL, le_zminR]) <;> omega
  · obtain ⟨e0, e1, e2, e3⟩ := go_3 M
    rw [e0, e1, e2, e3, rm, rm, rm, rm, show fX9_goesOn 0 3 = 4 from rfl, show fX9_goesOn 1 3 = 4 from rfl, show fX9_goesOn 2 3 = 3 from rfl, show fX9_goesOn 3 3 = 4 from rfl, r4]
    refine ⟨eq_le (fun x => ?_), ?_, ?_, ?_, ?_⟩ <;> (try simp only [le_zmin, le_zminL, le_zminR]) <;> omega
  · obtain ⟨e0, e1, e2, e3⟩ := go_4 M
    rw [e0, e1, e2, e3, rm, rm, rm, rm, show fX9_goesOn 0 4 = 4 from rfl, show fX9_goesOn 1 4 = 4 from rfl, show fX9_goesOn 2 4 = 0 from rfl, show fX9_goesOn 3 4 = 0 from rfl, r4]
    refine ⟨eq_le (fun x => ?_), ?_, ?_, ?_, ?_⟩ <;> (try simp only [le_zmin, le_zminL, le_zminR]) <;> omega
theorem go_o {M : Mem} {f : Int} {r : Nat} (h5 : Nat.beq r 5 = false) (h6 : Nat.beq r 6 = false) : fX4_goOnWith M f r = M r := fr_fX4_goOnWith f h5 h6
theorem pts_L {N G : Mem} (hG : GI G) {t : Int} (ht : 0 ≤ t ∧ t < 3) (h : HS N G t) : ∀ (k : Nat) (Mx : Mem) (i : Int), 0 ≤ i → i ≤ fX9_countOf G t 0 → fX9_countOf G t 0 - i < k → Mx 7 = N 7 → Mx 2 = N 2 → 0 ≤ Mx 5 0 → 0 ≤ Mx 5 1 → 0 ≤ Mx 5 2 → 0 ≤ Mx 5 3 → ∀ w : Int, w = wS (Mx 5 0) (Mx 5 1) (Mx 5 2) (Mx 5 3) ((FL G t).drop i.toNat) → (fX4_fewestByPoints_L2 N 4 k Mx i).1 = if w < 1000 then w else -1 := by
  have z := GL_len hG ht
  have n := g_size hG ht
  intro k
  induction k with
  | zero => intro Mx i _ _ _; omega
  | succ k ih =>
    intro Mx i h0 h1 h2 m7 m2 c0 c1 c2 c3 w hw
    rw [fX4_fewestByPoints_L2, m7, h.1]
    by_cases hc : fX9_countOf G t 0 ≤ i
    · rw [if_pos hc]
      rw [FL_end (by omega)] at hw
      have e : w = zmin (zmin (zmin (Mx 5 0 + 1000) (Mx 5 1 + 1000)) (zmin (Mx 5 2 + 0) (Mx 5 3 + 0))) 1000 := hw
      have q := zmin_r (Mx 5 2) (Mx 5 3)
      have q1 := zmin_r (Mx 5 0 + 1000) (Mx 5 1 + 1000)
      have q2 := zmin_r (Mx 5 2 + 0) (Mx 5 3 + 0)
      have q3 := zmin_r (zmin (Mx 5 0 + 1000) (Mx 5 1 + 1000)) (zmin (Mx 5 2 + 0) (Mx 5 3 + 0))
      have q4 := zmin_r (zmin (zmin (Mx 5 0 + 1000) (Mx 5 1 + 1000)) (zmin (Mx 5 2 + 0) (Mx 5 3 + 0))) 1000
      by_cases hd : (1000 : Int) ≤ zmin (Mx 5 2) (Mx 5 3)
      · rw [if_pos hd, if_neg (by omega)]
      · rw [if_neg hd, if_pos (by omega)]
        show zmin (Mx 5 2) (Mx 5 3) = w
        omega
    · rw [if_neg hc]
      have hh := h.2.2 i h0 (by omega)
      have fe : fX4_foldAt Mx i = (FL G t).getD i.toNat 0 := by
        rw [← g_foldF hG ht h0 (by omega), ← hh.1]
        unfold fX4_foldAt
        rw [m7, m2]
      have fr : 1 ≤ (FL G t).getD i.toNat 0 ∧ (FL G t).getD i.toNat 0 ≤ 4 := by
        rw [← g_foldF hG ht h0 (by omega)]
        exact hh.2.2.2.2.1
      rw [fe]
      rw [FL_drop (k := i.toNat) (by omega)] at hw
      obtain ⟨g, g0, g1, g2, g3⟩ := wS_go (M := Mx) fr ((FL G t).drop (i.toNat + 1)) c0 c1 c2 c3
      refine ih _ (i + 1) (by omega) (by omega) (by omega) ?_ ?_ g0 g1 g2 g3 w ?_
      · rw [go_o rfl rfl, m7]
      · rw [go_o rfl rfl, m2]
      · rw [show (i + 1).toNat = i.toNat + 1 by omega, g, ← hw]
theorem pts_e {N G : Mem} (hG : GI G) {t : Int} (ht : 0 ≤ t ∧ t < 3) (h : HS N G t) : (fX4_fewestByPoints N).1 = fX9_fewestOf G t := by
  have r0 := rm_0 (FL G t) 0
  have r1 := rm_0 (FL G t) 1
  have r2 := rm_0 (FL G t) 2
  have r3 := rm_0 (FL G t) 3
  have q := pts_L hG ht h 8 (mst (mst (mst (mst N 5 0 0) 5 1 1000) 5 2 1000) 5 3 1000) 0 (by decide) h.2.1.1 (by have := h.2.1; omega) rfl rfl (show (0 : Int) ≤ 0 by decide) (show (0 : Int) ≤ 1000 by decide) (show (0 : Int) ≤ 1000 by decide) (show (0 : Int) ≤ 1000 by decide) _ rfl
  have e : fX4_fewestByPoints N = fX4_fewestByPoints_L2 N 4 8 (mst (mst (mst (mst N 5 0 0) 5 1 1000) 5 2 1000) 5 3 1000) 0 := by
    unfold fX4_fewestByPoints
    rw [fX4_fewestByPoints_L1, if_neg (by decide), if_pos (by decide), fX4_fewestByPoints_L1, if_neg (by decide), if_neg (by decide), fX4_fewestByPoints_L1, if_neg (by decide), if_neg (by decide), fX4_fewestByPoints_L1, if_neg (by decide), if_neg (by decide), fX4_fewestByPoints_L1, if_pos (by decide)]
    rfl
  rw [e, q, few_rm hG ht]
  show (if zmin (zmin (zmin (0 + rm (FL G t) 0) (1000 + rm (FL G t) 1)) (zmin (1000 + rm (FL G t) 2) (1000 + rm (FL G t) 3))) 1000 < 1000 then zmin (zmin (zmin (0 + rm (FL G t) 0) (1000 + rm (FL G t) 1)) (zmin (1000 + rm (FL G t) 2) (1000 + rm (FL G t) 3))) 1000 else -1) = _
  have q1 := zmin_r (0 + rm (FL G t) 0) (1000 + rm (FL G t) 1)
  have q2 := zmin_r (1000 + rm (FL G t) 2) (1000 + rm (FL G t) 3)
  have q3 := zmin_r (zmin (0 + rm (FL G t) 0) (1000 + rm (FL G t) 1)) (zmin (1000 + rm (FL G t) 2) (1000 + rm (FL G t) 3))
  have q4 := zmin_r (zmin (zmin (0 + rm (FL G t) 0) (1000 + rm (FL G t) 1)) (zmin (1000 + rm (FL G t) 2) (1000 + rm (FL G t) 3))) 1000
  by_cases hx : rm (FL G t) 0 < 1000
  · rw [if_pos hx, if_pos (by omega)]
    omega
  · rw [if_neg hx, if_neg (by omega)]
