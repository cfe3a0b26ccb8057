/-! FACTS: texts and states (written by mk11b.py). -/
def TEq (M N : Mem) : Prop := M 11 0 = N 11 0 ∧ ∀ i : Int, 0 ≤ i → i < N 11 0 → M 10 i = N 10 i
theorem TEq.tr {M N K : Mem} (h : TEq M N) (g : TEq N K) : TEq M K := ⟨h.1.trans g.1, fun i a b => (h.2 i a (by rw [g.1]; exact b)).trans (g.2 i a b)⟩
theorem TEq.of {M N : Mem} (h10 : M 10 = N 10) (h11 : M 11 = N 11) : TEq M N := ⟨by rw [h11], fun i _ _ => by rw [h10]⟩
theorem sg_c {M N : Mem} (h : TEq M N) (i : Int) : fX7_signAt M i = fX7_signAt N i := by
  unfold fX7_signAt
  rw [h.1]
  split
  · rfl
  split
  · rfl
  split
  · rfl
  · exact h.2 i (by omega) (by omega)
theorem mt_c {M N : Mem} (h : TEq M N) (co s : Int) : ∀ (k : Nat) (c : Int), fX7_matched_L1 M co s k c = fX7_matched_L1 N co s k c := by
  intro k
  induction k with
  | zero => intro c; rfl
  | succ k ih => intro c; rw [fX7_matched_L1, fX7_matched_L1, h.1, sg_c h, ih]
theorem ma_c {M N : Mem} (h : TEq M N) (co s : Int) : fX7_matched M co s = fX7_matched N co s := mt_c h co s 11 0
theorem cl_c {M N : Mem} (h : TEq M N) (s : Int) : ∀ (k : Nat) (i : Int), fX7_commandAt_L1 M s k i = fX7_commandAt_L1 N s k i := by
  intro k
  induction k with
  | zero => intro c; rfl
  | succ k ih => intro c; rw [fX7_commandAt_L1, fX7_commandAt_L1, ma_c h, ih]
theorem cm_c {M N : Mem} (h : TEq M N) (s : Int) : fX7_commandAt M s = fX7_commandAt N s := cl_c h s 10 0
theorem ll_c {M N : Mem} (h : TEq M N) (s : Int) : ∀ (k : Nat) (m i : Int), fX7_longestMatch_L1 M s k m i = fX7_longestMatch_L1 N s k m i := by
  intro k
  induction k with
  | zero => intro m i; rfl
  | succ k ih => intro m i; rw [fX7_longestMatch_L1, fX7_longestMatch_L1, ma_c h, ih]
theorem lm_c {M N : Mem} (h : TEq M N) (s : Int) : fX7_longestMatch M s = fX7_longestMatch N s := ll_c h s 10 0 0
theorem el_c {M N : Mem} (h : TEq M N) : ∀ (k : Nat) (s n : Int), fX7_errorAt_L1 M k s n = fX7_errorAt_L1 N k s n := by
  intro k
  induction k with
  | zero => intro s n; rfl
  | succ k ih => intro s n; rw [fX7_errorAt_L1, fX7_errorAt_L1, h.1, cm_c h, lm_c h, sg_c h, ih]
theorem er_c {M N : Mem} (h : TEq M N) : fX7_errorAt M = fX7_errorAt N := el_c h 62 0 0
theorem al_c {M N : Mem} (h : TEq M N) (co s n : Int) : ∀ (k : Nat) (a i : Int), fX7_argument_L1 M co s n k a i = fX7_argument_L1 N co s n k a i := by
  intro k
  induction k with
  | zero => intro a i; rfl
  | succ k ih => intro a i; rw [fX7_argument_L1, fX7_argument_L1, sg_c h, ih, ih]
theorem ar_c {M N : Mem} (h : TEq M N) (co s n : Int) : fX7_argument M co s n = fX7_argument N co s n := al_c h co s n 11 0 0
/-- a text as a memory of its own -/
def tM (n : Nat) (g : Int → Int) : Mem := fun r j => if r = 11 then (n : Int) else if r = 10 then g j else 0
theorem put_L (g : Int → Int) : ∀ (k : Nat) (i : Int) (M : Mem), 0 ≤ i → M 11 0 = i → i + k ≤ 60 → (fL_putL g k i M) 11 0 = i + k ∧ (∀ j : Int, 0 ≤ j → j < i → (fL_putL g k i M) 10 j = M 10 j) ∧ (∀ j : Int, i ≤ j → j < i + k → (fL_putL g k i M) 10 j = g j) ∧ (∀ r : Nat, r ≠ 10 → r ≠ 11 → (fL_putL g k i M) r = M r) := by
  intro k
  induction k with
  | zero => intro i M h0 h1 h2; exact ⟨by show M 11 0 = i + ((0 : Nat) : Int); omega, fun _ _ _ => rfl, fun j a b => by omega, fun _ _ _ => rfl⟩
  | succ k ih =>
    intro i M h0 h1 h2
    have e := append_e (M := M) (ch := g i) (by omega) (by omega)
    have a := ih (i + 1) (fX7_append M (g i)) (by omega) (by rw [e]; show M 11 0 + 1 = i + 1; omega) (by omega)
    show (fL_putL g k (i + 1) (fX7_append M (g i))) 11 0 = _ ∧ (∀ j : Int, 0 ≤ j → j < i → (fL_putL g k (i + 1) (fX7_append M (g i))) 10 j = M 10 j) ∧ (∀ j : Int, i ≤ j → j < i + ((k + 1 : Nat) : Int) → (fL_putL g k (i + 1) (fX7_append M (g i))) 10 j = g j) ∧ (∀ r : Nat, r ≠ 10 → r ≠ 11 → (fL_putL g k (i + 1) (fX7_append M (g i))) r = M r)
    have e10 : ∀ j : Int, (fX7_append M (g i)) 10 j = up (M 10) (M 11 0) (g i) j := fun j => by rw [e]; rfl
    refine ⟨by omega, fun j x y => ?_, fun j x y => ?_, fun r x y => ?_⟩
    · rw [a.2.1 j x (by omega), e10, up_n (by omega)]
    · by_cases hj : j = i
      · rw [hj, a.2.1 i h0 (by omega), e10, h1, up_e]
      · exact a.2.2.1 j (by omega) (by omega)
    · rw [a.2.2.2 r x y, e]
      show cond (Nat.beq r 11) _ (cond (Nat.beq r 10) _ (M r)) = M r
      rw [beq_f y, beq_f x]
      rfl
/-- a text put into an empty buffer -/
theorem put_e {M : Mem} (h : M 11 0 = 0) (n : Nat) (g : Int → Int) (hn : n ≤ 60) : TEq (fL_put M n g) (tM n g) ∧ ∀ r : Nat, r ≠ 10 → r ≠ 11 → (fL_put M n g) r = M r := by
  obtain ⟨a, -, b, c⟩ := put_L g n 0 M (by decide) h (by omega)
  refine ⟨⟨?_, fun i x y => ?_⟩, c⟩
  · show (fL_putL g n 0 M) 11 0 = (n : Int)
    omega
  · exact b i x (by have : i < (n : Int) := y; omega)
theorem put_TI {M : Mem} (hT : TI M) (h : M 11 0 = 0) (n : Nat) (g : Int → Int) (hn : n ≤ 60) (hg : ∀ i : Int, 0 ≤ i → i < n → 0 ≤ g i ∧ g i < 256) : TI (fL_put M n g) := by
  have L : ∀ (k : Nat) (i : Int) (Mx : Mem), TI Mx → 0 ≤ i → i + k = n → Mx 11 0 + k ≤ 60 → TI (fL_putL g k i Mx) := by
    intro k
    induction k with
    | zero => intro i Mx t _ _ _; exact t
    | succ k ih =>
      intro i Mx t a b c
      exact ih (i + 1) _ (TI_app2 t (by omega) (hg i a (by omega))) (by omega) (by omega) (by rw [append_11 t.1.1 (by omega)]; omega)
  exact L n 0 M hT (by decide) (by omega) (by omega)
/-- a text that is malformed -/
theorem read_bad {M N : Mem} (h : TEq M N) {v : Int} (hv : fX7_errorAt N = v) (h0 : ¬ v = -1) : fX8_read M = (2, 0, msf (fX7_empty M) 17 v) := by
  unfold fX8_read
  rw [er_c h, hv, if_neg h0]
/-- the judge and what is carried out leave the text -/
theorem tx_judge (M : Mem) (co a b d : Int) : TEq (fX5_judge M co a b d).2 M := TEq.of (fr_fX5_judge co a b d rfl rfl rfl rfl rfl) (fr_fX5_judge co a b d rfl rfl rfl rfl rfl)
theorem tx_carry (M : Mem) (co a b d : Int) : TEq (fX5_carryOut M co a b d).2 M := TEq.of (fr_fX5_carryOut co a b d rfl rfl rfl rfl rfl rfl) (fr_fX5_carryOut co a b d rfl rfl rfl rfl rfl rfl)
/-- what is behind one command that is fine, refused -/
def stC (M : Mem) (co a b d : Int) : Mem := (fX5_carryOut (fX5_judge M co a b d).2 co a b d).2
theorem readL_ok {M Mx N : Mem} (h : TEq Mx N) {k : Nat} {num st co a b d len co2 : Int} (hco : fX7_commandAt N st = co) (h0 : ¬ co < 0) (hnum : ¬ 60 ≤ num) (ha : fX7_argument N co st 0 = a) (hb : fX7_argument N co st 1 = b) (hd : fX7_argument N co st 2 = d) (hlen : fX1_length co = len) (hco2 : fX7_commandAt N (st + (len + 1)) = co2) (hj : (fX5_judge Mx co a b d).1 = 0) : fX8_read_L1 M (k + 1) Mx 0 num st co = fX8_read_L1 M k (stC Mx co a b d) 0 (num + 1) (st + (len + 1)) co2 ∧ TEq (stC Mx co a b d) N := by
  have t2 : TEq (stC Mx co a b d) N := (tx_carry _ co a b d).tr ((tx_judge Mx co a b d).tr h)
  refine ⟨?_, t2⟩
  rw [fX8_read_L1, if_neg h0, if_pos rfl, if_neg hnum, ar_c h, ar_c h, ar_c h, ha, hb, hd, hj, if_pos rfl, hlen]
  show fX8_read_L1 M k (stC Mx co a b d) 0 (num + 1) (st + (len + 1)) (fX7_commandAt (stC Mx co a b d) (st + (len + 1))) = _
  rw [cm_c t2, hco2]
theorem readL_no {M Mx N : Mem} (h : TEq Mx N) {k : Nat} {num st co a b d v : Int} (h0 : ¬ co < 0) (hnum : ¬ 60 ≤ num) (ha : fX7_argument N co st 0 = a) (hb : fX7_argument N co st 1 = b) (hd : fX7_argument N co st 2 = d) (hj : (fX5_judge Mx co a b d).1 = v) (hv : ¬ v = 0) : fX8_read_L1 M (k + 2) Mx 0 num st co = (3, 0, fX8_refuse (fX6_copyFrom_b (fX7_empty (fX5_judge Mx co a b d).2)) (9 * 16 + (num + 1 - 1)) (zmax v 0)) := by
  rw [fX8_read_L1, if_neg h0, if_pos rfl, if_neg hnum, ar_c h, ar_c h, ar_c h, ha, hb, hd, hj, if_neg hv, fX8_read_L1]
  split
  · rfl
  · rfl
theorem readL_end {M Mx : Mem} {k : Nat} {num st : Int} : fX8_read_L1 M (k + 1) Mx 0 num st (-1) = (0, num, fX2_push (fX7_empty Mx)) := by
  rw [fX8_read_L1, if_pos (by decide), if_pos rfl]
