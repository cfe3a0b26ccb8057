/-! THE FIRST TWO OBJECTS: two commands of a text, and the same two calls; refused and malformed texts; what is undone. -/
theorem pigeon : ∀ (n : Nat) (f : Nat → Int), (∀ i : Nat, i ≤ n → 0 ≤ f i ∧ f i < n) → ∃ i j : Nat, i < j ∧ j ≤ n ∧ f i = f j := by
  intro n
  induction n with
  | zero => intro f h; have := h 0 (Nat.le_refl 0); exact absurd this (by omega)
  | succ n ih =>
    intro f h
    by_cases e : ∃ i : Nat, i ≤ n ∧ f i = f (n + 1)
    · obtain ⟨i, a, b⟩ := e
      exact ⟨i, n + 1, by omega, Nat.le_refl _, b⟩
    · have e2 : ∀ i : Nat, i ≤ n → ¬ f i = f (n + 1) := fun i a b => e ⟨i, a, b⟩
      obtain ⟨i, j, a, b, c⟩ := ih (fun i => if f i = n then f (n + 1) else f i) (fun i hi => by
        have x := h i (by omega)
        have y := h (n + 1) (Nat.le_refl _)
        have z := e2 i hi
        show 0 ≤ (if f i = n then f (n + 1) else f i) ∧ (if f i = n then f (n + 1) else f i) < n
        split
        · exact ⟨y.1, by omega⟩
        · exact ⟨x.1, by omega⟩)
      have c : (if f i = n then f (n + 1) else f i) = (if f j = n then f (n + 1) else f j) := c
      refine ⟨i, j, a, by omega, ?_⟩
      have zi := e2 i (by omega)
      have zj := e2 j (by omega)
      split at c
      · split at c
        · omega
        · exact absurd c.symm zj
      · split at c
        · exact absurd c zi
        · exact c
theorem j6 (M : Mem) (a b d : Int) : fX5_judge M 6 a b d = (fX5_judgeLay M a b, M) := rfl
theorem j3 (M : Mem) (a b d : Int) : fX5_judge M 3 a b d = (fX5_judgeTake M a, M) := rfl
theorem j7 (M : Mem) (a b d : Int) : fX5_judge M 7 a b d = (fX5_judgeMove M a b d, M) := rfl
theorem c6 (M : Mem) (a b d : Int) : fX5_carryOut M 6 a b d = ((fX6_addLast M a b).1, (fX6_addLast M a b).2) := rfl
theorem c3 (M : Mem) (a b d : Int) : fX5_carryOut M 3 a b d = ((fX6_remove M a).1, (fX6_remove M a).2) := rfl
theorem hasN {M : Mem} {n : Int} (h0 : 0 ≤ n) (h : n < M 0 77) : fX6_hasNapkin M n = 1 := by
  unfold fX6_hasNapkin
  rw [if_neg (by omega), if_neg (by omega)]
theorem isT {t : Int} (h : 0 ≤ t ∧ t < 3) : fX8_isTable t = 1 := by
  unfold fX8_isTable
  rw [if_neg (by omega), if_neg (by omega)]
theorem layJ {M : Mem} {n t : Int} (h0 : 0 ≤ n) (h : n < M 0 77) (ht : 0 ≤ t ∧ t < 3) : fX5_judgeLay M n t = if fX6_tableUnder M n = -1 then (if 6 ≤ fX6_laidOn M t then fX8_refusedFor 1 6 else 0) else fX8_refusedFor 4 (fX6_tableUnder M n) := by
  unfold fX5_judgeLay
  rw [hasN h0 h, isT ht, if_neg (by decide), if_neg (by decide)]
theorem takeJ {M : Mem} {n : Int} (h0 : 0 ≤ n) (h : n < M 0 77) : fX5_judgeTake M n = if fX6_tableUnder M n = -1 then fX8_refusedFor 5 n else 0 := by
  unfold fX5_judgeTake
  rw [hasN h0 h, if_neg (by decide)]
/-- a table with room: the third, or else the second -/
theorem room_to {B : Mem} (hC : CI B) (hD : DI (B 0)) (h2 : ¬ fX6_laidOn B 2 < 6) : fX6_laidOn B 1 < 6 := by
  rw [laid_e (by decide)] at h2 ⊢
  have x1 := CI_6 hC 1 (by decide) (by decide)
  have x2 := CI_6 hC 2 (by decide) (by decide)
  by_cases h1 : B 0 (68 + 1) < 6
  · exact h1
  exfalso
  obtain ⟨i, j, a, b, c⟩ := pigeon 10 (fun k => if k < 6 then B 0 (50 + 2 * 6 + (k : Int)) else B 0 (50 + 1 * 6 + ((k : Int) - 6))) (fun k hk => by
    show 0 ≤ (if k < 6 then B 0 (50 + 2 * 6 + (k : Int)) else B 0 (50 + 1 * 6 + ((k : Int) - 6))) ∧ (if k < 6 then B 0 (50 + 2 * 6 + (k : Int)) else B 0 (50 + 1 * 6 + ((k : Int) - 6))) < (10 : Nat)
    split
    · have := CI_seat hC (50 + 2 * 6 + (k : Int)) (by omega) (by omega); omega
    · have := CI_seat hC (50 + 1 * 6 + ((k : Int) - 6)) (by omega) (by omega); omega)
  have c : (if i < 6 then B 0 (50 + 2 * 6 + (i : Int)) else B 0 (50 + 1 * 6 + ((i : Int) - 6))) = (if j < 6 then B 0 (50 + 2 * 6 + (j : Int)) else B 0 (50 + 1 * 6 + ((j : Int) - 6))) := c
  split at c
  · split at c
    · have := hD 2 i 2 j (by decide) (by decide) (by omega) (by omega) (by decide) (by decide) (by omega) (by omega) c; omega
    · have := hD 2 i 1 ((j : Int) - 6) (by decide) (by decide) (by omega) (by omega) (by decide) (by decide) (by omega) (by omega) c; omega
  · split at c
    · omega
    · have := hD 1 ((i : Int) - 6) 1 ((j : Int) - 6) (by decide) (by decide) (by omega) (by omega) (by decide) (by decide) (by omega) (by omega) c; omega
/-- napkin 0 lies nowhere: it can be laid, then taken, not laid again -/
theorem caseA {B : Mem} (h : BI B) (h1 : 1 ≤ B 0 77) (hu : fX6_tableUnder B 0 = -1) {t : Int} (ht : 0 ≤ t ∧ t < 3) (hl : fX6_laidOn B t < 6) : (fX5_judge B 6 0 t 0).1 = 0 ∧ 0 ≤ (fX5_carryOut B 6 0 t 0).1 ∧ (fX5_judge (fX5_carryOut B 6 0 t 0).2 3 0 0 0).1 = 0 ∧ 0 ≤ (fX5_carryOut (fX5_carryOut B 6 0 t 0).2 3 0 0 0).1 ∧ (fX5_judge (fX5_carryOut B 6 0 t 0).2 6 0 t 0).1 = 64 + t := by
  have a1 : (fX5_judge B 6 0 t 0).1 = 0 := by
    rw [j6]
    show fX5_judgeLay B 0 t = 0
    rw [layJ (by decide) (by omega) ht, if_pos hu, if_neg (by omega)]
  have hC1 : CI (fX5_carryOut B 6 0 t 0).2 := CI_carryOut h.1 rfl a1
  have hD1 := (DI_carryOut h.1 h.2.2.2.2.1 rfl a1).1
  have l6 := CI_6 h.1 t ht.1 ht.2
  have hl0 : fX6_laidOn B t = B 0 (68 + t) := laid_e ht
  rw [hl0] at hl
  have cz : ∀ z : Int, (fX5_carryOut B 6 0 t 0).2 0 z = if z = 50 + t * 6 + B 0 (68 + t) then 0 else if z = 68 + t then B 0 (68 + t) + 1 else B 0 z := fun z => lay_c ht hl0 l6.1 (by omega) z
  have c77 : (fX5_carryOut B 6 0 t 0).2 0 77 = B 0 77 := by rw [cz, if_neg (by omega), if_neg (by omega)]
  have cs : (fX5_carryOut B 6 0 t 0).2 0 (50 + t * 6 + B 0 (68 + t)) = 0 := by rw [cz, if_pos rfl]
  have cl : (fX5_carryOut B 6 0 t 0).2 0 (68 + t) = B 0 (68 + t) + 1 := by rw [cz, if_neg (by omega), if_pos rfl]
  generalize (fX5_carryOut B 6 0 t 0).2 = B1 at hC1 hD1 cz c77 cs cl ⊢
  have u1 : fX6_tableUnder B1 0 = t ∧ 0 ≤ fX6_placeUnder B1 0 := by
    rcases cunder (M := B1) 0 with ⟨-, y, -⟩ | ⟨k1, k2, k3, k4, k5, k6, -⟩
    · exact absurd cs (NS_of (CI_6 hC1) y t (B 0 (68 + t)) ht.1 ht.2 l6.1 (by omega))
    · exact ⟨(hD1 _ _ t (B 0 (68 + t)) k1 k2 k3 k5 ht.1 ht.2 l6.1 (by omega) (k6.trans cs.symm)).1, k3⟩
  refine ⟨a1, ?_, ?_, ?_, ?_⟩
  · rw [c6]
    show 0 ≤ fX6_laidOn B t
    rw [hl0]; exact l6.1
  · rw [j3]
    show fX5_judgeTake B1 0 = 0
    rw [takeJ (by decide) (by omega), u1.1, if_neg (by omega)]
  · rw [c3]
    exact u1.2
  · rw [j6]
    show fX5_judgeLay B1 0 t = 64 + t
    rw [layJ (by decide) (by omega) ht, u1.1, if_neg (by omega)]
    rfl
/-- napkin 0 lies on a table: it can be taken, then laid there, not taken again -/
theorem caseB {B : Mem} (h : BI B) (h1 : 1 ≤ B 0 77) {t : Int} (hu : fX6_tableUnder B 0 = t) (h0 : ¬ t = -1) : (0 ≤ t ∧ t < 3) ∧ (fX5_judge B 3 0 0 0).1 = 0 ∧ 0 ≤ (fX5_carryOut B 3 0 0 0).1 ∧ (fX5_judge (fX5_carryOut B 3 0 0 0).2 6 0 t 0).1 = 0 ∧ 0 ≤ (fX5_carryOut (fX5_carryOut B 3 0 0 0).2 6 0 t 0).1 ∧ (fX5_judge (fX5_carryOut B 3 0 0 0).2 3 0 0 0).1 = 80 := by
  have a1 : (fX5_judge B 3 0 0 0).1 = 0 := by
    rw [j3]
    show fX5_judgeTake B 0 = 0
    rw [takeJ (by decide) (by omega), hu, if_neg h0]
  rcases cunder (M := B) 0 with ⟨-, y, -⟩ | ⟨k1, k2, k3, k4, k5, k6, -⟩
  · omega
  have q2 : 0 ≤ (fX5_carryOut B 3 0 0 0).1 := by rw [c3]; exact k3
  rw [hu] at k1 k2 k5 k6
  have l6 := CI_6 h.1 t k1 k2
  have hl0 : fX6_laidOn B t = B 0 (68 + t) := laid_e ⟨k1, k2⟩
  have hC1 : CI (fX5_carryOut B 3 0 0 0).2 := CI_carryOut h.1 rfl a1
  have cz : ∀ z : Int, (fX5_carryOut B 3 0 0 0).2 0 z = if 50 + t * 6 + fX6_placeUnder B 0 ≤ z ∧ z < 50 + t * 6 + (B 0 (68 + t) - 1) then B 0 (z + 1) else if z = 68 + t then B 0 (68 + t) - 1 else B 0 z := fun z => take_c ⟨k1, k2⟩ hu rfl hl0 l6.2 ⟨k3, k5⟩ z
  have n1 := (DI_rem h.2.2.2.2.1 (CI_6 h.1) ⟨k1, k2⟩ k3 k5 cz).2
  rw [k6] at n1
  have c77 : (fX5_carryOut B 3 0 0 0).2 0 77 = B 0 77 := by rw [cz, if_neg (by omega), if_neg (by omega)]
  have cl : (fX5_carryOut B 3 0 0 0).2 0 (68 + t) = B 0 (68 + t) - 1 := by rw [cz, if_neg (by omega), if_pos rfl]
  generalize (fX5_carryOut B 3 0 0 0).2 = B1 at hC1 cz c77 n1 cl ⊢
  have u1 := under_NS n1
  have l1 := CI_6 hC1 t k1 k2
  refine ⟨⟨k1, k2⟩, a1, q2, ?_, ?_, ?_⟩
  · rw [j6]
    show fX5_judgeLay B1 0 t = 0
    rw [layJ (by decide) (by omega) ⟨k1, k2⟩, if_pos u1, if_neg (by rw [laid_e ⟨k1, k2⟩]; omega)]
  · rw [c6]
    show 0 ≤ fX6_laidOn B1 t
    rw [laid_e ⟨k1, k2⟩]; exact l1.1
  · rw [j3]
    show fX5_judgeTake B1 0 = 80
    rw [takeJ (by decide) (by omega), if_pos u1]
    rfl
/-! the object with a text -/
def XI (B X : Mem) : Prop := OI X ∧ X 11 0 = 0 ∧ REq X B ∧ (∀ j : Int, 0 ≤ j → j < 80 → X 15 j = B 0 j) ∧ X 16 0 = 1
theorem OI_B {B : Mem} (h : BI B) : OI B := ⟨h.1, h.2.1, h.2.2.1, h.2.2.2.1, h.2.2.2.2.2.2⟩
theorem cp80 (σ τ : Int → Int) {j : Int} (a : 0 ≤ j) (b : j < 80) : cpI σ τ 0 0 80 j = σ j := by
  unfold cpI
  rw [if_pos ⟨a, by omega⟩, show (0 + (j - 0) : Int) = j by omega]
theorem XI_save {B : Mem} (h : BI B) : fX8_save B = (B 0 77, (fX8_save B).2) ∧ XI B (fX8_save B).2 := by
  have f : ∀ r : Nat, r ≠ 15 → r ≠ 16 → (fX8_save B).2 r = B r := fun r a b => fr_fX8_save (beq_f a) (beq_f b)
  exact ⟨rfl, OI_fr (OI_B h) (fun r _ _ _ _ h15 h16 _ _ _ => f r h15 h16), by rw [f 11 (by decide) (by decide)]; exact h.2.2.2.2.2.1, REq.of (f 0 (by decide) (by decide)), fun j a b => cp80 (B 0) (B 15) a b, rfl⟩
theorem XI_S {B X N : Mem} (h : XI B X) (s : SameS X N) (q : SI N) : XI B N := ⟨OI_S h.1 s q, by rw [s 11 (by decide) (by decide) (by decide) (by decide) (by decide)]; exact h.2.1, h.2.2.1.of2 (s 0 (by decide) (by decide) (by decide) (by decide) (by decide)) rfl, fun j a b => by rw [s 15 (by decide) (by decide) (by decide) (by decide) (by decide)]; exact h.2.2.2.1 j a b, by rw [s 16 (by decide) (by decide) (by decide) (by decide) (by decide)]; exact h.2.2.2.2⟩
theorem XI_state {B X : Mem} (h : XI B X) : XI B (fL_state X).2 := XI_S h (state_S X) (OI_state h.1).2.1
theorem XI_now {B X : Mem} (h : XI B X) : (fL_state X).1 = (fL_state B).1 := state_c h.2.2.1
theorem ctb_14 (K : Mem) {j : Int} (a : 0 ≤ j) (b : j < 80) : (fX6_copyTo_b K) 14 j = K 0 j := cp80 (K 0) (K 14) a b
theorem XI_put {B X : Mem} (h : XI B X) (n : Nat) (g : Int → Int) (hn : n ≤ 60) (hg : ∀ i : Int, 0 ≤ i → i < n → 0 ≤ g i ∧ g i < 256) : OI (fL_put X n g) ∧ TEq (fX6_copyTo_b (fL_put X n g)) (tM n g) ∧ TEq (fL_put X n g) (tM n g) ∧ REq (fL_put X n g) B ∧ (fL_put X n g) 15 = X 15 ∧ (fL_put X n g) 16 = X 16 ∧ (fL_put X n g) 9 = X 9 := by
  have p := put_e h.2.1 n g hn
  exact ⟨OI_put h.1 h.2.1 n g hn hg, (TEq.of (fr_fX6_copyTo_b rfl) (fr_fX6_copyTo_b rfl)).tr p.1, p.1, h.2.2.1.of2 (p.2 0 (by decide) (by decide)) rfl, p.2 15 (by decide) (by decide), p.2 16 (by decide) (by decide), p.2 9 (by decide) (by decide)⟩
theorem XI_read {B X : Mem} (h : XI B X) (n : Nat) (g : Int → Int) (hn : n ≤ 60) (hg : ∀ i : Int, 0 ≤ i → i < n → 0 ≤ g i ∧ g i < 256) {k v : Int} {N : Mem} (e : fX8_read (fL_put X n g) = (k, v, N)) (e11 : N 11 0 = 0) (eR : REq N B) : XI B N := by
  have p := XI_put h n g hn hg
  have oi := OI_read p.1
  have f15 : (fX8_read (fL_put X n g)).2.2 15 = (fL_put X n g) 15 := fr_fX8_read rfl rfl rfl rfl rfl rfl rfl rfl rfl rfl rfl rfl rfl
  have f16 : (fX8_read (fL_put X n g)).2.2 16 = (fL_put X n g) 16 := fr_fX8_read rfl rfl rfl rfl rfl rfl rfl rfl rfl rfl rfl rfl rfl
  rw [e] at oi f15 f16
  have f15 : N 15 = (fL_put X n g) 15 := f15
  have f16 : N 16 = (fL_put X n g) 16 := f16
  exact ⟨oi, e11, eR, fun j a b => by rw [f15, p.2.2.2.2.1]; exact h.2.2.2.1 j a b, by rw [f16, p.2.2.2.2.2.1]; exact h.2.2.2.2⟩
/-- a malformed text -/
theorem x_bad {B X : Mem} (h : XI B X) (n : Nat) (g : Int → Int) (hn : n ≤ 60) (hg : ∀ i : Int, 0 ≤ i → i < n → 0 ≤ g i ∧ g i < 256) {v : Int} (hv : fX7_errorAt (tM n g) = v) (h0 : 0 ≤ v) : ∃ N : Mem, fX8_read (fL_put X n g) = (2, 0, N) ∧ XI B N ∧ N 17 0 = v := by
  have p := XI_put h n g hn hg
  have e := read_bad p.2.2.1 hv (by omega)
  exact ⟨_, e, XI_read h n g hn hg e rfl (fun j a b => p.2.2.2.1 j a b), rfl⟩
theorem stC_R {Mx B : Mem} (h : REq Mx B) (co a b d : Int) : REq (stC Mx co a b d) (fX5_carryOut B co a b d).2 := (cy_c (h.of2 (judge_0 Mx co a b d) rfl) co a b d).2
theorem stC_fr {Mx : Mem} (co a b d : Int) {r : Nat} (h0 : r ≠ 0) (h1 : r ≠ 1) (h2 : r ≠ 2) (h3 : r ≠ 3) (h4 : r ≠ 4) (h7 : r ≠ 7) : stC Mx co a b d r = Mx r := (fr_fX5_carryOut co a b d (beq_f h0) (beq_f h1) (beq_f h2) (beq_f h3) (beq_f h4) (beq_f h7)).trans (fr_fX5_judge co a b d (beq_f h1) (beq_f h2) (beq_f h3) (beq_f h4) (beq_f h7))
theorem x_no1 {B X : Mem} (h : XI B X) (n : Nat) (g : Int → Int) (hn : n ≤ 60) (hg : ∀ i : Int, 0 ≤ i → i < n → 0 ≤ g i ∧ g i < 256) {co a b d v : Int} (er : fX7_errorAt (tM n g) = -1) (p1 : fX7_commandAt (tM n g) 0 = co) (q1 : ¬ co < 0) (ha : fX7_argument (tM n g) co 0 0 = a) (hb : fX7_argument (tM n g) co 0 1 = b) (hd : fX7_argument (tM n g) co 0 2 = d) (j : (fX5_judge B co a b d).1 = v) (hv : ¬ v = 0) : ∃ N : Mem, fX8_read (fL_put X n g) = (3, 0, N) ∧ XI B N ∧ N 18 0 = 144 ∧ N 19 0 = zmax v 0 := by
  obtain ⟨p0, pt, pt2, pR, -⟩ := XI_put h n g hn hg
  have hR : REq (fX6_copyTo_b (fL_put X n g)) B := pR.of2 (fr_fX6_copyTo_b rfl) rfl
  have jj : (fX5_judge (fX6_copyTo_b (fL_put X n g)) co a b d).1 = v := (ju_c hR co a b d).1.trans j
  have e : fX8_read (fL_put X n g) = (3, 0, fX8_refuse (fX6_copyFrom_b (fX7_empty (fX5_judge (fX6_copyTo_b (fL_put X n g)) co a b d).2)) (9 * 16 + (0 + 1 - 1)) (zmax v 0)) := by
    unfold fX8_read
    rw [er_c pt2, er, if_pos rfl, cm_c pt, p1]
    exact readL_no (k := 60) pt q1 (by decide) ha hb hd jj hv
  refine ⟨_, e, XI_read h n g hn hg e rfl ?_, rfl, rfl⟩
  have bk : REq (fX6_copyFrom_b (fX7_empty (fX5_judge (fX6_copyTo_b (fL_put X n g)) co a b d).2)) B := back_R (fun i x y => by
    show (fX5_judge (fX6_copyTo_b (fL_put X n g)) co a b d).2 14 i = _
    rw [show (fX5_judge (fX6_copyTo_b (fL_put X n g)) co a b d).2 14 = (fX6_copyTo_b (fL_put X n g)) 14 from fr_fX5_judge _ _ _ _ rfl rfl rfl rfl rfl, ctb_14 _ x y]
    exact pR i x y)
  exact fun i x y => bk i x y
theorem x_no2 {B X : Mem} (h : XI B X) (n : Nat) (g : Int → Int) (hn : n ≤ 60) (hg : ∀ i : Int, 0 ≤ i → i < n → 0 ≤ g i ∧ g i < 256) {co a b d l co2 a2 b2 d2 v : Int} (er : fX7_errorAt (tM n g) = -1) (p1 : fX7_commandAt (tM n g) 0 = co) (q1 : ¬ co < 0) (ha : fX7_argument (tM n g) co 0 0 = a) (hb : fX7_argument (tM n g) co 0 1 = b) (hd : fX7_argument (tM n g) co 0 2 = d) (hl : fX1_length co = l) (p2 : fX7_commandAt (tM n g) (0 + (l + 1)) = co2) (q2 : ¬ co2 < 0) (ha2 : fX7_argument (tM n g) co2 (0 + (l + 1)) 0 = a2) (hb2 : fX7_argument (tM n g) co2 (0 + (l + 1)) 1 = b2) (hd2 : fX7_argument (tM n g) co2 (0 + (l + 1)) 2 = d2) (j1 : (fX5_judge B co a b d).1 = 0) (j2 : (fX5_judge (fX5_carryOut B co a b d).2 co2 a2 b2 d2).1 = v) (hv : ¬ v = 0) : ∃ N : Mem, fX8_read (fL_put X n g) = (3, 0, N) ∧ XI B N ∧ N 18 0 = 145 ∧ N 19 0 = zmax v 0 := by
  obtain ⟨p0, pt, pt2, pR, -⟩ := XI_put h n g hn hg
  have hR : REq (fX6_copyTo_b (fL_put X n g)) B := pR.of2 (fr_fX6_copyTo_b rfl) rfl
  have jj : (fX5_judge (fX6_copyTo_b (fL_put X n g)) co a b d).1 = 0 := (ju_c hR co a b d).1.trans j1
  have f14 : ∀ i : Int, 0 ≤ i → i < 80 → (fX6_copyTo_b (fL_put X n g)) 14 i = B 0 i := fun i x y => (ctb_14 _ x y).trans (pR i x y)
  obtain ⟨e1, t1⟩ := readL_ok (M := fL_put X n g) pt (k := 61) (num := 0) p1 q1 (by decide) ha hb hd hl p2 jj
  have hR1 := stC_R hR co a b d
  have j22 : (fX5_judge (stC (fX6_copyTo_b (fL_put X n g)) co a b d) co2 a2 b2 d2).1 = v := (ju_c hR1 co2 a2 b2 d2).1.trans j2
  have e : fX8_read (fL_put X n g) = (3, 0, fX8_refuse (fX6_copyFrom_b (fX7_empty (fX5_judge (stC (fX6_copyTo_b (fL_put X n g)) co a b d) co2 a2 b2 d2).2)) (9 * 16 + (0 + 1 + 1 - 1)) (zmax v 0)) := by
    unfold fX8_read
    rw [er_c pt2, er, if_pos rfl, cm_c pt, p1]
    exact e1.trans (readL_no (k := 59) t1 q2 (by decide) ha2 hb2 hd2 j22 hv)
  refine ⟨_, e, XI_read h n g hn hg e rfl ?_, rfl, rfl⟩
  have bk : REq (fX6_copyFrom_b (fX7_empty (fX5_judge (stC (fX6_copyTo_b (fL_put X n g)) co a b d) co2 a2 b2 d2).2)) B := back_R (fun i x y => by
    show (fX5_judge (stC (fX6_copyTo_b (fL_put X n g)) co a b d) co2 a2 b2 d2).2 14 i = _
    rw [show (fX5_judge (stC (fX6_copyTo_b (fL_put X n g)) co a b d) co2 a2 b2 d2).2 14 = (stC (fX6_copyTo_b (fL_put X n g)) co a b d) 14 from fr_fX5_judge _ _ _ _ rfl rfl rfl rfl rfl, stC_fr co a b d (by decide) (by decide) (by decide) (by decide) (by decide) (by decide)]
    exact f14 i x y)
  exact fun i x y => bk i x y
/-- two commands that are done -/
theorem x_two {B X : Mem} (h : XI B X) (n : Nat) (g : Int → Int) (hn : n ≤ 60) (hg : ∀ i : Int, 0 ≤ i → i < n → 0 ≤ g i ∧ g i < 256) {co a b d l co2 a2 b2 d2 l2 : Int} (er : fX7_errorAt (tM n g) = -1) (p1 : fX7_commandAt (tM n g) 0 = co) (q1 : ¬ co < 0) (ha : fX7_argument (tM n g) co 0 0 = a) (hb : fX7_argument (tM n g) co 0 1 = b) (hd : fX7_argument (tM n g) co 0 2 = d) (hl : fX1_length co = l) (p2 : fX7_commandAt (tM n g) (0 + (l + 1)) = co2) (q2 : ¬ co2 < 0) (ha2 : fX7_argument (tM n g) co2 (0 + (l + 1)) 0 = a2) (hb2 : fX7_argument (tM n g) co2 (0 + (l + 1)) 1 = b2) (hd2 : fX7_argument (tM n g) co2 (0 + (l + 1)) 2 = d2) (hl2 : fX1_length co2 = l2) (p3 : fX7_commandAt (tM n g) (0 + (l + 1) + (l2 + 1)) = -1) (j1 : (fX5_judge B co a b d).1 = 0) (j2 : (fX5_judge (fX5_carryOut B co a b d).2 co2 a2 b2 d2).1 = 0) : ∃ N S : Mem, fX8_read (fL_put X n g) = (0, 2, N) ∧ OI N ∧ N 11 0 = 0 ∧ REq N (fX5_carryOut (fX5_carryOut B co a b d).2 co2 a2 b2 d2).2 ∧ N 15 = X 15 ∧ N 16 = X 16 ∧ N = fX2_push S ∧ HN S ∧ (∀ j : Int, 0 ≤ j → j < 80 → S 14 j = B 0 j) := by
  obtain ⟨p0, pt, pt2, pR, p15, p16, p9⟩ := XI_put h n g hn hg
  have hR : REq (fX6_copyTo_b (fL_put X n g)) B := pR.of2 (fr_fX6_copyTo_b rfl) rfl
  have jj : (fX5_judge (fX6_copyTo_b (fL_put X n g)) co a b d).1 = 0 := (ju_c hR co a b d).1.trans j1
  have f14 : ∀ i : Int, 0 ≤ i → i < 80 → (fX6_copyTo_b (fL_put X n g)) 14 i = B 0 i := fun i x y => (ctb_14 _ x y).trans (pR i x y)
  obtain ⟨e1, t1⟩ := readL_ok (M := fL_put X n g) pt (k := 61) (num := 0) p1 q1 (by decide) ha hb hd hl p2 jj
  have hR1 := stC_R hR co a b d
  have j22 : (fX5_judge (stC (fX6_copyTo_b (fL_put X n g)) co a b d) co2 a2 b2 d2).1 = 0 := (ju_c hR1 co2 a2 b2 d2).1.trans j2
  obtain ⟨e2, t2⟩ := readL_ok (M := fL_put X n g) t1 (k := 60) (num := 0 + 1) p2 q2 (by decide) ha2 hb2 hd2 hl2 p3 j22
  have hR2 := stC_R hR1 co2 a2 b2 d2
  have e : fX8_read (fL_put X n g) = (0, 0 + 1 + 1, fX2_push (fX7_empty (stC (stC (fX6_copyTo_b (fL_put X n g)) co a b d) co2 a2 b2 d2))) := by
    unfold fX8_read
    rw [er_c pt2, er, if_pos rfl, cm_c pt, p1]
    exact e1.trans (e2.trans (readL_end (k := 59)))
  have fr : ∀ r : Nat, r ≠ 0 → r ≠ 1 → r ≠ 2 → r ≠ 3 → r ≠ 4 → r ≠ 7 → r ≠ 14 → stC (stC (fX6_copyTo_b (fL_put X n g)) co a b d) co2 a2 b2 d2 r = (fL_put X n g) r := fun r h0 h1 h2 h3 h4 h7 h14 => (stC_fr _ _ _ _ h0 h1 h2 h3 h4 h7).trans ((stC_fr _ _ _ _ h0 h1 h2 h3 h4 h7).trans (fr_fX6_copyTo_b (beq_f h14)))
  have oi := OI_read p0
  rw [e] at oi
  have pf : ∀ (K : Mem) (r : Nat), r ≠ 8 → r ≠ 9 → r ≠ 11 → (fX2_push (fX7_empty K)) r = K r := fun K r a b c => (fr_fX2_push (beq_f a) (beq_f b)).trans (fr_fX7_empty (beq_f c))
  refine ⟨_, fX7_empty (stC (stC (fX6_copyTo_b (fL_put X n g)) co a b d) co2 a2 b2 d2), e, oi, pe_11 _, hR2.of2 (pe_0 _) rfl, ?_, ?_, rfl, ?_, fun i x y => ?_⟩
  · rw [pf _ 15 (by decide) (by decide) (by decide), fr 15 (by decide) (by decide) (by decide) (by decide) (by decide) (by decide) (by decide), p15]
  · rw [pf _ 16 (by decide) (by decide) (by decide), fr 16 (by decide) (by decide) (by decide) (by decide) (by decide) (by decide) (by decide), p16]
  · have f9 : (fX7_empty (stC (stC (fX6_copyTo_b (fL_put X n g)) co a b d) co2 a2 b2 d2)) 9 = X 9 := (fr_fX7_empty rfl).trans ((fr 9 (by decide) (by decide) (by decide) (by decide) (by decide) (by decide) (by decide)).trans p9)
    exact HN_of f9 h.1.2.2.2.1
  · show (stC (stC (fX6_copyTo_b (fL_put X n g)) co a b d) co2 a2 b2 d2) 14 i = _
    rw [stC_fr co2 a2 b2 d2 (by decide) (by decide) (by decide) (by decide) (by decide) (by decide), stC_fr co a b d (by decide) (by decide) (by decide) (by decide) (by decide) (by decide)]
    exact f14 i x y
/-! what is undone -/
theorem undo_e {U : Mem} (h : 1 ≤ U 9 0 ∧ U 9 0 ≤ 8) : fX8_undo U = (0, U 9 0 - 1, (fX8_undo U).2.2) ∧ (∀ j : Int, 0 ≤ j → j < 80 → (fX8_undo U).2.2 0 j = U 8 (80 * (U 9 0 - 1) + j)) ∧ (fX8_undo U).2.2 9 0 = U 9 0 - 1 ∧ ∀ r : Nat, r ≠ 0 → r ≠ 9 → r ≠ 14 → (fX8_undo U).2.2 r = U r := by
  have hp : fX2_pop U = mcp (msf U 9 (U 9 0 - 1)) 8 ((U 9 0 - 1) * 80) 14 0 80 := by
    unfold fX2_pop
    rw [if_neg (by omega), if_neg (by omega)]
  have e : fX8_undo U = (0, U 9 0 - 1, fX6_copyFrom_b (fX2_pop U)) := by
    unfold fX8_undo fX2_size
    rw [if_neg (by omega), hp]
    rfl
  refine ⟨by rw [e], fun j a b => ?_, ?_, fun r h0 h9 h14 => fr_fX8_undo (beq_f h0) (beq_f h9) (beq_f h14)⟩
  · rw [e]
    show cpI ((fX2_pop U) 14) ((fX2_pop U) 0) 0 0 80 j = _
    rw [cp80 _ _ a b, hp]
    show cpI (U 8) (U 14) ((U 9 0 - 1) * 80) 0 80 j = _
    unfold cpI
    rw [if_pos ⟨a, by omega⟩]
    congr 1
    omega
  · rw [e, hp]
    rfl
theorem x_undo {B N S U : Mem} (hB : CI B) (hN : N = fX2_push S) (hS : HN S) (h14 : ∀ j : Int, 0 ≤ j → j < 80 → S 14 j = B 0 j) (hU : SameS N U) (oi : OI U) (h11 : N 11 0 = 0) (h15 : ∀ j : Int, 0 ≤ j → j < 80 → N 15 j = B 0 j) (h16 : N 16 0 = 1) : ∃ V : Mem, fX8_undo U = (0, U 9 0 - 1, V) ∧ XI B V := by
  have u : ∀ r : Nat, r ≠ 1 → r ≠ 2 → r ≠ 3 → r ≠ 4 → r ≠ 7 → U r = N r := hU
  obtain ⟨a, b⟩ := push_ok hS
  have a9 : U 9 0 = if S 9 0 = 8 then 8 else S 9 0 + 1 := by rw [u 9 (by decide) (by decide) (by decide) (by decide) (by decide), hN]; exact a
  have hs := hS
  unfold HN at hs
  have r9 : 1 ≤ U 9 0 ∧ U 9 0 ≤ 8 := by rw [a9]; split <;> omega
  obtain ⟨e, c, e9, fr⟩ := undo_e r9
  have R : REq (fX8_undo U).2.2 B := fun j x y => by
    rw [c j x y, u 8 (by decide) (by decide) (by decide) (by decide) (by decide), hN]
    have k := b (U 9 0 - 1) j (by omega) (by omega) x y
    rw [k, if_pos (by rw [a9]; split <;> omega)]
    exact h14 j x y
  refine ⟨_, e, ⟨CI_R R hB, SI_same (M := U) (fun r hr => by rcases hr with rfl | rfl | rfl | rfl | rfl <;> exact fr _ (by decide) (by decide) (by decide)) oi.2.1, TI_of (M := U) (fr 10 (by decide) (by decide) (by decide)) (fr 11 (by decide) (by decide) (by decide)) oi.2.2.1, by unfold HN; rw [e9]; omega, LN_of (M := U) (fr 12 (by decide) (by decide) (by decide)) (fr 13 (by decide) (by decide) (by decide)) oi.2.2.2.2⟩, ?_, R, fun j x y => ?_, ?_⟩
  · rw [fr 11 (by decide) (by decide) (by decide), u 11 (by decide) (by decide) (by decide) (by decide) (by decide)]; exact h11
  · rw [fr 15 (by decide) (by decide) (by decide), u 15 (by decide) (by decide) (by decide) (by decide) (by decide)]; exact h15 j x y
  · rw [fr 16 (by decide) (by decide) (by decide), u 16 (by decide) (by decide) (by decide) (by decide) (by decide)]; exact h16
/-! the same by calls -/
theorem y_do {B Y : Mem} (h : OI Y) (hR : REq Y B) {co a b d v : Int} (j : (fX5_judge B co a b d).1 = 0) (hv : (fX5_carryOut B co a b d).1 = v) : fX8_change Y co a b d = (0, v, cM Y co a b d) ∧ OI (cM Y co a b d) ∧ REq (cM Y co a b d) (fX5_carryOut B co a b d).2 := by
  have e := ju_c hR co a b d
  have e1 := e.1.trans j
  have k := cy_c (M := fX2_push (fX6_copyTo_b (fX5_judge Y co a b d).2)) (N := B) (hR.of2 ((pcp_0 _).trans (judge_0 Y co a b d)) rfl) co a b d
  have eq : fX8_change Y co a b d = (0, (fX5_carryOut (fX2_push (fX6_copyTo_b (fX5_judge Y co a b d).2)) co a b d).1, (fX5_carryOut (fX2_push (fX6_copyTo_b (fX5_judge Y co a b d).2)) co a b d).2) := by
    unfold fX8_change
    rw [e1, if_neg (by decide), if_neg (by decide), if_pos rfl]
  refine ⟨triple (by rw [eq]) (by rw [eq]; exact k.1.trans hv) rfl, OI_cM h co a b d, ?_⟩
  unfold cM
  rw [eq]
  exact k.2
theorem cM_89 {Y : Mem} (h : HN Y) {co a b d : Int} (j : (fX5_judge Y co a b d).1 = 0) : cM Y co a b d 9 0 = (if Y 9 0 = 8 then 8 else Y 9 0 + 1) ∧ ∀ i k : Int, 0 ≤ i → i < (if Y 9 0 = 8 then 8 else Y 9 0 + 1) → 0 ≤ k → k < 80 → cM Y co a b d 8 (80 * i + k) = if i = (if Y 9 0 = 8 then 7 else Y 9 0) then Y 0 k else if Y 9 0 = 8 then Y 8 (80 * (i + 1) + k) else Y 8 (80 * i + k) := by
  have eq : cM Y co a b d = (fX5_carryOut (fX2_push (fX6_copyTo_b (fX5_judge Y co a b d).2)) co a b d).2 := by
    unfold cM fX8_change
    rw [j, if_neg (by decide), if_neg (by decide), if_pos rfl]
  have f8 : cM Y co a b d 8 = (fX2_push (fX6_copyTo_b (fX5_judge Y co a b d).2)) 8 := by rw [eq]; exact fr_fX5_carryOut co a b d rfl rfl rfl rfl rfl rfl
  have f9 : cM Y co a b d 9 = (fX2_push (fX6_copyTo_b (fX5_judge Y co a b d).2)) 9 := by rw [eq]; exact fr_fX5_carryOut co a b d rfl rfl rfl rfl rfl rfl
  have g8 : (fX6_copyTo_b (fX5_judge Y co a b d).2) 8 = Y 8 := (fr_fX6_copyTo_b rfl).trans (fr_fX5_judge co a b d rfl rfl rfl rfl rfl)
  have g9 : (fX6_copyTo_b (fX5_judge Y co a b d).2) 9 = Y 9 := (fr_fX6_copyTo_b rfl).trans (fr_fX5_judge co a b d rfl rfl rfl rfl rfl)
  obtain ⟨x, y⟩ := push_ok (M := fX6_copyTo_b (fX5_judge Y co a b d).2) (by rw [g9]; exact h)
  rw [g8, g9] at y
  rw [g9] at x
  rw [f8, f9]
  refine ⟨x, fun i k p q r s => ?_⟩
  rw [y i k p q r s, ctb_14 _ r s, judge_0]
theorem y_undo2 {B U : Mem} (hB : OI B) {c1 a1 b1 d1 c2 a2 b2 d2 : Int} (j1 : (fX5_judge B c1 a1 b1 d1).1 = 0) (j2 : (fX5_judge (cM B c1 a1 b1 d1) c2 a2 b2 d2).1 = 0) (hU : SameS (cM (cM B c1 a1 b1 d1) c2 a2 b2 d2) U) (oi : OI U) : ∃ V V2 : Mem, ∃ v v2 : Int, fX8_undo U = (0, v, V) ∧ 0 ≤ v ∧ OI V ∧ fX8_undo V = (0, v2, V2) ∧ 0 ≤ v2 ∧ OI V2 ∧ REq V2 B := by
  have h9 : 0 ≤ B 9 0 ∧ B 9 0 ≤ 8 := hB.2.2.2.1
  have o1 := OI_cM hB c1 a1 b1 d1
  have h91 : 0 ≤ (cM B c1 a1 b1 d1) 9 0 ∧ (cM B c1 a1 b1 d1) 9 0 ≤ 8 := o1.2.2.2.1
  obtain ⟨x1, y1⟩ := cM_89 hB.2.2.2.1 j1
  obtain ⟨x2, y2⟩ := cM_89 o1.2.2.2.1 j2
  generalize cM B c1 a1 b1 d1 = Y1 at o1 h91 x1 y1 x2 y2 hU j2
  have o2 := OI_cM o1 c2 a2 b2 d2
  generalize cM Y1 c2 a2 b2 d2 = Y2 at x2 y2 hU o2
  have u : ∀ r : Nat, r ≠ 1 → r ≠ 2 → r ≠ 3 → r ≠ 4 → r ≠ 7 → U r = Y2 r := hU
  have u9 : U 9 0 = Y2 9 0 := by rw [u 9 (by decide) (by decide) (by decide) (by decide) (by decide)]
  have n1 : 1 ≤ Y1 9 0 := by rw [x1]; split <;> omega
  have n2 : 2 ≤ Y2 9 0 ∧ Y2 9 0 ≤ 8 := by rw [x2]; split <;> omega
  obtain ⟨e, c, e9, fr⟩ := undo_e (U := U) (by omega)
  have R1 : REq (fX8_undo U).2.2 Y1 := fun j p q => by
    rw [c j p q, u9, u 8 (by decide) (by decide) (by decide) (by decide) (by decide), y2 (Y2 9 0 - 1) j (by omega) (by rw [x2]; omega) p q, if_pos (by rw [x2]; split <;> omega)]
  have ov : OI (fX8_undo U).2.2 := ⟨CI_R R1 o1.1, SI_same (M := U) (fun r hr => by rcases hr with rfl | rfl | rfl | rfl | rfl <;> exact fr _ (by decide) (by decide) (by decide)) oi.2.1, TI_of (M := U) (fr 10 (by decide) (by decide) (by decide)) (fr 11 (by decide) (by decide) (by decide)) oi.2.2.1, by unfold HN; rw [e9]; omega, LN_of (M := U) (fr 12 (by decide) (by decide) (by decide)) (fr 13 (by decide) (by decide) (by decide)) oi.2.2.2.2⟩
  have v8 : (fX8_undo U).2.2 8 = Y2 8 := (fr 8 (by decide) (by decide) (by decide)).trans (u 8 (by decide) (by decide) (by decide) (by decide) (by decide))
  have v9 : (fX8_undo U).2.2 9 0 = Y2 9 0 - 1 := by rw [e9, u9]
  generalize (fX8_undo U).2.2 = V at e ov v8 v9
  obtain ⟨e', c', e9', fr'⟩ := undo_e (U := V) (by omega)
  have R2 : REq (fX8_undo V).2.2 B := fun j p q => by
    rw [c' j p q, v9, v8, y2 (Y2 9 0 - 1 - 1) j (by omega) (by rw [x2]; omega) p q, if_neg (by rw [x2]; split <;> omega)]
    by_cases z : Y1 9 0 = 8
    · rw [if_pos z, show Y2 9 0 - 1 - 1 + 1 = 7 by rw [x2, if_pos z]; rfl, y1 7 j (by decide) (by rw [x1] at z; rw [← x1]; omega) p q, if_pos (by rw [x1] at z; split at z <;> (split <;> omega))]
    · rw [if_neg z, show Y2 9 0 - 1 - 1 = Y1 9 0 - 1 by rw [x2, if_neg z]; omega, y1 (Y1 9 0 - 1) j (by omega) (by rw [← x1]; omega) p q, if_pos (by rw [x1] at z ⊢; split at z <;> (split <;> omega))]
  refine ⟨V, _, U 9 0 - 1, V 9 0 - 1, e, by omega, ov, e', by omega, ⟨CI_R R2 hB.1, SI_same (M := V) (fun r hr => by rcases hr with rfl | rfl | rfl | rfl | rfl <;> exact fr' _ (by decide) (by decide) (by decide)) ov.2.1, TI_of (M := V) (fr' 10 (by decide) (by decide) (by decide)) (fr' 11 (by decide) (by decide) (by decide)) ov.2.2.1, by unfold HN; rw [e9']; omega, LN_of (M := V) (fr' 12 (by decide) (by decide) (by decide)) (fr' 13 (by decide) (by decide) (by decide)) ov.2.2.2.2⟩, R2⟩
/-- the row brought back from what was saved -/
theorem x_restore {B X : Mem} (hB : CI B) (h : XI B X) : ∃ V : Mem, fX8_restore X = (0, B 0 77, V) ∧ OI V ∧ REq V B ∧ V 9 0 = 0 := by
  obtain ⟨oi, h11, hR, h15, h16⟩ := h
  have e : fX8_restore X = (0, (fX2_empty (fX6_copyFrom_s X)) 0 77, fX2_empty (fX6_copyFrom_s X)) := by
    unfold fX8_restore
    rw [h16, if_neg (by decide)]
    rfl
  have R : REq (fX2_empty (fX6_copyFrom_s X)) B := fun j a b => by
    show cpI (X 15) (X 0) 0 0 80 j = B 0 j
    rw [cp80 _ _ a b]
    exact h15 j a b
  have fr : ∀ r : Nat, r ≠ 0 → r ≠ 9 → (fX8_restore X).2.2 r = X r := fun r a b => fr_fX8_restore (beq_f a) (beq_f b)
  rw [e] at fr
  rw [R 77 (by decide) (by decide)] at e
  exact ⟨_, e, ⟨CI_R R hB, SI_same (M := X) (fun r hr => fr r (by omega) (by omega)) oi.2.1, TI_of (M := X) (fr 10 (by decide) (by decide)) (fr 11 (by decide) (by decide)) oi.2.2.1, HN_empty, LN_of (M := X) (fr 12 (by decide) (by decide)) (fr 13 (by decide) (by decide)) oi.2.2.2.2⟩, R, rfl⟩
