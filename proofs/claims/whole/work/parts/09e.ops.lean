/-! THE NINE CHANGES, judged and carried out alike. -/
/-- v: the class's verdict; cr: what its carrying out answers and leaves; mr: the model's; n1, n2, n3: what the model throws then -/
def OpR (v : Int) (cr : Int × Mem) (G : Mem) (mr : Int × Mem) (n1 n2 n3 : Int) : Prop :=
  (v = -1 ∧ ¬ n1 = 0 ∧ mr = fX9_fails G n1) ∨ (v = -2 ∧ ¬ n2 = 0 ∧ mr = fX9_fails G n2) ∨ (16 ≤ v ∧ v ≤ 159 ∧ mr = fX9_refused G (v / 16) (v % 16) n3) ∨
  (v = 0 ∧ ∃ X : Mem, mr = fX9_done X cr.1 ∧ (∀ r : Nat, Nat.beq r 0 = false → X r = G r) ∧ RW (cr.2 0) (X 0))
theorem SR_cells {c g c' g' : Int → Int} (h : SR c g) (h6 : ∀ u : Int, 0 ≤ u → u < 3 → 0 ≤ g (55 + u) ∧ g (55 + u) ≤ 6) (hc : ∀ z : Int, 50 ≤ z → ¬ z = 79 → c' z = c z) (hg : ∀ z : Int, 55 ≤ z ∨ z = 0 ∨ z = 1 ∨ z = 2 → g' z = g z)
    (hj : ∀ j : Int, 0 ≤ j → j < 10 → c' j = g' (5 + j) ∧ c' (10 + j) = g' (15 + j) ∧ c' (20 + j) = g' (25 + j) ∧ c' (30 + j) = g' (35 + j) ∧ c' (40 + j) = g' (45 + j))
    (hz : ∀ j : Int, g 0 ≤ j → j < 10 → g' (15 + j) = 0 ∧ g' (25 + j) = 0 ∧ g' (35 + j) = 0 ∧ g' (45 + j) = 0) (h79 : c' 79 = g' 4)
    (h3 : g' 3 = g' 45 + g' 46 + g' 47 + g' 48 + g' 49 + g' 50 + g' 51 + g' 52 + g' 53 + g' 54) : SR c' g' := by
  have n := SR_n h
  have m := SR_m h
  refine ⟨?_, hj, fun j a b => ?_, fun t a b => ?_, fun t p a b d e => ?_, fun t p u q a b d e a' b' d' e' f => ?_, ?_, h79, ?_, h3⟩
  · rw [hc 77 (by decide) (by decide), hg 0 (by omega)]
    exact n
  · rw [hg 0 (by omega)] at a
    exact hz j a b
  · rw [hc (68 + t) (by omega) (by omega), hc (71 + t) (by omega) (by omega), hc (74 + t) (by omega) (by omega), hg (55 + t) (by omega), hg (58 + t) (by omega), hg (61 + t) (by omega)]
    exact SR_t h t a b
  · rw [hg (55 + t) (by omega)] at e
    have l := h6 t a b
    rw [hc (50 + t * 6 + p) (by omega) (by omega), hg (64 + 6 * t + p) (by omega), hg 0 (by omega)]
    exact SR_s h t p a b d e
  · rw [hg (55 + t) (by omega)] at e
    rw [hg (55 + u) (by omega)] at e'
    rw [hg (64 + 6 * t + p) (by omega), hg (64 + 6 * u + q) (by omega)] at f
    exact SR_u h t p u q a b d e a' b' d' e' f
  · rw [hc 78 (by decide) (by decide), hg 1 (by omega)]
    exact m.1
  · rw [hg 2 (by omega), hg 61 (by omega), hg 62 (by omega), hg 63 (by omega)]
    exact m.2.2.1
theorem setN_in {M : Mem} {f n v : Int} (h : 0 ≤ n ∧ n < 10) : fX6_setOfNapkin M f n v = mst M 0 (f + n) v := by
  unfold fX6_setOfNapkin
  rw [if_neg (by omega), if_neg (by omega)]
theorem setT_in {M : Mem} {f t v : Int} (h : 0 ≤ t ∧ t < 3) : fX6_setOfTable M f t v = mst M 0 (f + t) v := by
  unfold fX6_setOfTable
  rw [if_neg (by omega), if_neg (by omega)]
theorem ofT_e {M : Mem} {f t : Int} (h : 0 ≤ t ∧ t < 3) : fX6_ofTable M f t = M 0 (f + t) := by
  unfold fX6_ofTable
  rw [if_neg (by omega), if_neg (by omega)]
theorem nap_e {C G : Mem} (hS : SR (C 0) (G 0)) (n : Int) : fX6_hasNapkin C n = fX9_isNapkin G n := by
  have := SR_n hS
  unfold fX6_hasNapkin fX9_isNapkin fX9_in
  (repeat' split) <;> omega
theorem tab_e (t : Int) : fX8_isTable t = fX9_isTable t := by
  unfold fX8_isTable fX9_isTable fX9_in
  (repeat' split) <;> omega
theorem plc_e {C G : Mem} (hS : SR (C 0) (G 0)) {t : Int} (ht : 0 ≤ t ∧ t < 3) (p : Int) : fX6_hasPlace C t p = fX9_in p 0 (G 0 (55 + t) - 1) := by
  have := (SR_t hS t ht.1 ht.2).1
  unfold fX6_hasPlace fX9_in
  rw [laid_e ht]
  (repeat' split) <;> omega
theorem RW_S {c g : Int → Int} (h : RW c g) : SR c g := h.2.2
theorem RW_C {C : Mem} {g : Int → Int} (h : RW (C 0) g) : CI C := h.1
theorem RW_G {c : Int → Int} {G : Mem} (h : RW c (G 0)) : GI G := h.2.1
theorem RW_6 {c g : Int → Int} (h : RW c g) : ∀ u : Int, 0 ≤ u → u < 3 → 0 ≤ g (55 + u) ∧ g (55 + u) ≤ 6 := fun u a b => h.2.1.2.2.2.2.2.1 (55 + u) (by omega) (by omega)
theorem GI_dn {X G' : Mem} {r : Int} {mr : Int × Mem} (h : GI mr.2) (e : mr = fX9_done X r) : GI X := by
  rw [e] at h
  exact GI_of rfl h
theorem op_new {C N G : Mem} (hR : RW (C 0) (G 0)) (h0 : N 0 = C 0) (a : Int) : OpR (fX5_judgeNew C a) (fX6_addNapkin N a) G (fX9_comes G a) 0 1 2 := by
  have hS := RW_S hR
  have n := SR_n hS
  have m := SR_m hS
  have d := dX9_in a 0 3
  have gi := GI_comes (RW_G hR) a
  unfold OpR fX5_judgeNew fX6_napkins
  unfold fX9_comes at gi ⊢
  by_cases h1 : fX9_in a 0 3 = 0
  · right; left
    have : a < 0 ∨ 3 < a := by unfold fX9_in at h1; (repeat' split at h1) <;> omega
    rw [if_pos h1]
    refine ⟨?_, by decide, rfl⟩
    (repeat' split) <;> omega
  · rw [if_neg h1] at gi ⊢
    have h1' : 0 ≤ a ∧ a ≤ 3 := by omega
    rw [if_neg (show ¬ a < 0 by omega), if_pos (show a < 4 by omega)]
    by_cases h2 : G 0 0 = 10
    · right; right; left
      rw [if_pos h2, if_pos (show (10 : Int) ≤ C 0 77 by omega)]
      exact ⟨by decide, by decide, rfl⟩
    · right; right; right
      rw [if_neg h2] at gi ⊢
      rw [if_neg (show ¬ (10 : Int) ≤ C 0 77 by omega)]
      have hN : CI N := CI_of0 h0 (RW_C hR)
      have ci := CI_addNapkin hN (c := a) (by omega)
      have e : fX6_addNapkin N a = (N 0 77, mst (mst N 0 77 (N 0 77 + 1)) 0 (0 + N 0 77) a) := by
        unfold fX6_addNapkin fX6_napkins
        rw [h0, if_neg (by omega), setN_in (by omega)]
      rw [e] at ci ⊢
      refine ⟨rfl, mst (mst G 0 (5 + G 0 0) a) 0 0 ((mst G 0 (5 + G 0 0) a) 0 0 + 1), ?_, fun r hr => by rw [mst_o hr, mst_o hr], ci, GI_of rfl gi, ?_⟩
      · show fX9_done _ (G 0 0) = fX9_done _ (N 0 77)
        rw [h0, n.1]
      · show SR (up (up (N 0) 77 (N 0 77 + 1)) (0 + N 0 77) a) (up (up (G 0) (5 + G 0 0) a) 0 (up (G 0) (5 + G 0 0) a 0 + 1))
        rw [up_n (show ¬ (0 : Int) = 5 + G 0 0 by omega), h0, n.1]
        refine ⟨?_, fun j x y => ?_, fun j x y => ?_, fun t x y => ?_, fun t p x y z w => ?_, fun t p u q x y z w x' y' z' w' f => ?_, ?_⟩
        · rw [up_n (by omega), up_e, up_e]
          omega
        · have q := SR_j hS j x y
          by_cases hj : j = G 0 0
          · subst hj
            refine ⟨?_, ?_, ?_, ?_, ?_⟩
            · rw [show (0 : Int) + G 0 0 = G 0 0 by omega, up_e, up_n (by omega), up_e]
            all_goals (simp (disch := omega) only [up_n]; omega)
          · refine ⟨?_, ?_, ?_, ?_, ?_⟩ <;> (simp (disch := omega) only [up_n]; omega)
        · rw [up_e] at x
          have q := SR_z hS j (by omega) y
          refine ⟨?_, ?_, ?_, ?_⟩ <;> (simp (disch := omega) only [up_n]; omega)
        · have q := SR_t hS t x y
          refine ⟨?_, ?_, ?_⟩ <;> (simp (disch := omega) only [up_n]; omega)
        · simp (disch := omega) only [up_n] at w
          have l6 := RW_6 hR t x y
          have q := SR_s hS t p x y z w
          refine ⟨?_, ?_⟩
          · simp (disch := omega) only [up_n]
            exact q.1
          · rw [up_e]
            simp (disch := omega) only [up_n]
            omega
        · simp (disch := omega) only [up_n] at w w' f
          exact SR_u hS t p u q x y z w x' y' z' w' f
        · refine ⟨?_, ?_, ?_, ?_⟩ <;> (simp (disch := omega) only [up_n]; omega)
theorem RW_1525 {c g : Int → Int} (h : RW c g) {n : Int} (hn : 0 ≤ n ∧ n < 10) : (0 ≤ g (15 + n) ∧ g (15 + n) ≤ 4) ∧ (0 ≤ g (25 + n) ∧ g (25 + n) ≤ 12) ∧ (0 ≤ g (35 + n) ∧ g (35 + n) ≤ 9) := ⟨h.2.1.2.2.1 (15 + n) (by omega) (by omega), h.2.1.2.2.2.1 (25 + n) (by omega) (by omega), h.2.1.2.2.2.2.1 (35 + n) (by omega) (by omega)⟩
theorem op_fold {C N G : Mem} (hR : RW (C 0) (G 0)) (h0 : N 0 = C 0) (a f : Int) : OpR (fX5_judgeFold C a f) (fX6_foldTo N a f (fX5_creasesFor f)) G (fX9_folds G a f) 1 2 3 := by
  have hS := RW_S hR
  have n := SR_n hS
  have m := SR_m hS
  have d := dX9_isNapkin (RW_G hR) a
  have d2 := dX9_in f 1 4
  have gi := GI_folds (RW_G hR) a f
  unfold OpR fX5_judgeFold fX8_refusedFor
  rw [nap_e hS]
  by_cases h1 : fX9_isNapkin G a = 0
  · left
    unfold fX9_folds
    rw [if_pos h1, if_pos h1]
    exact ⟨rfl, by decide, rfl⟩
  rw [if_neg h1]
  have ha : 0 ≤ a ∧ a < 10 := by omega
  by_cases h2 : fX9_in f 1 4 = 0
  · right; left
    have : f < 1 ∨ 4 < f := by unfold fX9_in at h2; (repeat' split at h2) <;> omega
    unfold fX9_folds
    rw [if_neg h1, if_pos h2]
    refine ⟨?_, by decide, rfl⟩
    (repeat' split) <;> omega
  have hf : 1 ≤ f ∧ f ≤ 4 := by omega
  rw [if_neg (show ¬ f < 1 by omega), if_pos hf.2]
  have q := SR_j hS a ha.1 ha.2
  have w := RW_1525 hR ha
  have ef : fX6_foldOf C a = G 0 (15 + a) := by unfold fX6_foldOf; rw [ofN_e ha.1 ha.2]; exact q.2.1
  have ec : fX6_creasesOf C a = G 0 (25 + a) := by unfold fX6_creasesOf; rw [ofN_e ha.1 ha.2]; exact q.2.2.1
  have ecN : fX6_creasesOf N a = G 0 (25 + a) := by unfold fX6_creasesOf; rw [ofN_e ha.1 ha.2, h0]; exact q.2.2.1
  rw [ef, ec]
  by_cases h3 : G 0 (15 + a) = f
  · right; right; left
    unfold fX9_folds
    rw [if_pos h3, if_neg h1, if_neg h2, if_pos h3]
    exact ⟨by omega, by omega, by rw [show (2 * 16 + f) / 16 = 2 by omega, show (2 * 16 + f) % 16 = f by omega]⟩
  rw [if_neg h3]
  have hm : ∃ (k : Int) (X : Mem), fX5_creasesFor f = k ∧ 1 ≤ k ∧ k ≤ 3 ∧ X = mst (mst (mst (mst G 0 (25 + a) (G 0 (25 + a) + k)) 0 (15 + a) f) 0 (45 + a) ((mst (mst G 0 (25 + a) (G 0 (25 + a) + k)) 0 (15 + a) f) 0 (45 + a) + 1)) 0 3 ((mst (mst (mst G 0 (25 + a) (G 0 (25 + a) + k)) 0 (15 + a) f) 0 (45 + a) ((mst (mst G 0 (25 + a) (G 0 (25 + a) + k)) 0 (15 + a) f) 0 (45 + a) + 1)) 0 3 + 1) ∧ fX9_folds G a f = if G 0 (25 + a) + k ≤ 12 then fX9_done X (X 0 (25 + a)) else fX9_refused G 3 (G 0 (25 + a)) 3 := by
    have c : f = 1 ∨ f = 2 ∨ f = 3 ∨ f = 4 := by omega
    unfold fX9_folds
    rcases c with rfl | rfl | rfl | rfl
    · exact ⟨3, _, by decide, by decide, by decide, rfl, by rw [if_neg h1, if_neg h2, if_neg h3, if_pos rfl]⟩
    · exact ⟨1, _, by decide, by decide, by decide, rfl, by rw [if_neg h1, if_neg h2, if_neg h3, if_neg (by decide), if_pos rfl]⟩
    · exact ⟨2, _, by decide, by decide, by decide, rfl, by rw [if_neg h1, if_neg h2, if_neg h3, if_neg (by decide), if_neg (by decide)]⟩
    · exact ⟨2, _, by decide, by decide, by decide, rfl, by rw [if_neg h1, if_neg h2, if_neg h3, if_neg (by decide), if_neg (by decide)]⟩
  obtain ⟨k, X, k0, k1, k2, hX, hm⟩ := hm
  rw [hm] at gi ⊢
  rw [k0]
  by_cases h4 : G 0 (25 + a) + k ≤ 12
  · right; right; right
    rw [if_pos h4] at gi ⊢
    rw [if_neg (show ¬ 12 < G 0 (25 + a) + k by omega)]
    have hN : CI N := CI_of0 h0 (RW_C hR)
    have ci := CI_foldTo hN (n := a) (f := f) (c := k) (by omega) (by rw [ecN]; omega)
    have e : fX6_foldTo N a f k = (G 0 (25 + a) + k, mst (mst (mst N 0 (10 + a) f) 0 (20 + a) (G 0 (25 + a) + k)) 0 (40 + a) (C 0 (40 + a) + 1)) := by
      unfold fX6_foldTo fX6_foldingsOf
      rw [ecN, setN_in ha, setN_in ha, setN_in ha, ofN_e ha.1 ha.2]
      show (_, mst _ 0 (40 + a) (up (up (N 0) (10 + a) f) (20 + a) (G 0 (25 + a) + k) (40 + a) + 1)) = _
      rw [up_n (by omega), up_n (by omega), h0]
    rw [e] at ci ⊢
    refine ⟨rfl, X, ?_, fun r hr => by rw [hX, mst_o hr, mst_o hr, mst_o hr, mst_o hr], ci, GI_of rfl gi, ?_⟩
    · congr 1
      rw [hX]
      show up (up (up (up (G 0) (25 + a) (G 0 (25 + a) + k)) (15 + a) f) (45 + a) _) 3 _ (25 + a) = _
      rw [up_n (by omega), up_n (by omega), up_n (by omega), up_e]
    · rw [hX]
      show SR (up (up (up (N 0) (10 + a) f) (20 + a) (G 0 (25 + a) + k)) (40 + a) (C 0 (40 + a) + 1)) (up (up (up (up (G 0) (25 + a) (G 0 (25 + a) + k)) (15 + a) f) (45 + a) (up (up (G 0) (25 + a) (G 0 (25 + a) + k)) (15 + a) f (45 + a) + 1)) 3 (up (up (up (G 0) (25 + a) (G 0 (25 + a) + k)) (15 + a) f) (45 + a) (up (up (G 0) (25 + a) (G 0 (25 + a) + k)) (15 + a) f (45 + a) + 1) 3 + 1))
      rw [up_n (show ¬ 45 + a = 15 + a by omega), up_n (show ¬ 45 + a = 25 + a by omega), up_n (show ¬ (3 : Int) = 45 + a by omega), up_n (show ¬ (3 : Int) = 15 + a by omega), up_n (show ¬ (3 : Int) = 25 + a by omega), h0]
      refine SR_cells hS (RW_6 hR) (fun z x y => ?_) (fun z x => ?_) (fun j x y => ?_) (fun j x y => ?_) ?_ ?_
      · simp (disch := omega) only [up_n]
      · simp (disch := omega) only [up_n]
      · have qj := SR_j hS j x y
        by_cases hj : j = a
        · subst hj
          refine ⟨?_, ?_, ?_, ?_, ?_⟩ <;> (simp (disch := omega) only [up_n, up_e]) <;> omega
        · refine ⟨?_, ?_, ?_, ?_, ?_⟩ <;> (simp (disch := omega) only [up_n]) <;> omega
      · have qz := SR_z hS j x y
        refine ⟨?_, ?_, ?_, ?_⟩ <;> (simp (disch := omega) only [up_n]) <;> omega
      · simp (disch := omega) only [up_n]
        exact m.2.1
      · rw [up_e]
        have s := sum_up (g := up (up (G 0) (25 + a) (G 0 (25 + a) + k)) (15 + a) f) (v := G 0 (45 + a) + 1) ha
        rw [up_n (show ¬ (45 : Int) = 3 by decide), up_n (show ¬ (46 : Int) = 3 by decide), up_n (show ¬ (47 : Int) = 3 by decide), up_n (show ¬ (48 : Int) = 3 by decide), up_n (show ¬ (49 : Int) = 3 by decide), up_n (show ¬ (50 : Int) = 3 by decide), up_n (show ¬ (51 : Int) = 3 by decide), up_n (show ¬ (52 : Int) = 3 by decide), up_n (show ¬ (53 : Int) = 3 by decide), up_n (show ¬ (54 : Int) = 3 by decide), s]
        simp (disch := omega) only [up_n]
        omega
  · right; right; left
    rw [if_neg h4, if_pos (show 12 < G 0 (25 + a) + k by omega)]
    exact ⟨by omega, by omega, by rw [show (3 * 16 + G 0 (25 + a)) / 16 = 3 by omega, show (3 * 16 + G 0 (25 + a)) % 16 = G 0 (25 + a) by omega]⟩
theorem op_open {C N G : Mem} (hR : RW (C 0) (G 0)) (h0 : N 0 = C 0) (a : Int) : OpR (fX5_judgeOpen C a) (fX6_open N a) G (fX9_unfolds G a) 1 0 2 := by
  have hS := RW_S hR
  have m := SR_m hS
  have d := dX9_isNapkin (RW_G hR) a
  have gi := GI_unfolds (RW_G hR) a
  unfold OpR fX5_judgeOpen fX8_refusedFor
  rw [nap_e hS]
  unfold fX9_unfolds at gi ⊢
  by_cases h1 : fX9_isNapkin G a = 0
  · left
    rw [if_pos h1, if_pos h1]
    exact ⟨rfl, by decide, rfl⟩
  rw [if_neg h1] at gi ⊢
  rw [if_neg h1]
  have ha : 0 ≤ a ∧ a < 10 := by omega
  have q := SR_j hS a ha.1 ha.2
  have ef : fX6_foldOf C a = G 0 (15 + a) := by unfold fX6_foldOf; rw [ofN_e ha.1 ha.2]; exact q.2.1
  rw [ef]
  by_cases h3 : G 0 (15 + a) = 0
  · right; right; left
    rw [if_pos h3, if_pos h3]
    exact ⟨by decide, by decide, rfl⟩
  · right; right; right
    rw [if_neg h3] at gi ⊢
    rw [if_neg h3]
    have hN : CI N := CI_of0 h0 (RW_C hR)
    have ci := CI_open hN a
    have e : fX6_open N a = (G 0 (15 + a), mst N 0 (10 + a) 0) := by
      unfold fX6_open fX6_foldOf
      rw [setN_in ha, ofN_e ha.1 ha.2, h0, q.2.1]
    rw [e] at ci ⊢
    refine ⟨rfl, mst G 0 (15 + a) 0, rfl, fun r hr => by rw [mst_o hr], ci, GI_of rfl gi, ?_⟩
    show SR (up (N 0) (10 + a) 0) (up (G 0) (15 + a) 0)
    rw [h0]
    refine SR_cells hS (RW_6 hR) (fun z x y => ?_) (fun z x => ?_) (fun j x y => ?_) (fun j x y => ?_) ?_ ?_
    · simp (disch := omega) only [up_n]
    · simp (disch := omega) only [up_n]
    · have qj := SR_j hS j x y
      by_cases hj : j = a
      · subst hj
        refine ⟨?_, ?_, ?_, ?_, ?_⟩ <;> (simp (disch := omega) only [up_n, up_e]) <;> omega
      · refine ⟨?_, ?_, ?_, ?_, ?_⟩ <;> (simp (disch := omega) only [up_n]) <;> omega
    · have qz := SR_z hS j x y
      refine ⟨?_, ?_, ?_, ?_⟩ <;> (simp (disch := omega) only [up_n]) <;> omega
    · simp (disch := omega) only [up_n]
      exact m.2.1
    · simp (disch := omega) only [up_n]
      exact m.2.2.2
theorem op_stain {C N G : Mem} (hR : RW (C 0) (G 0)) (h0 : N 0 = C 0) (a f : Int) : OpR (fX5_judgeStain C a f) (fX6_addStains N a f) G (fX9_stains G a f) 1 2 3 := by
  have hS := RW_S hR
  have m := SR_m hS
  have d := dX9_isNapkin (RW_G hR) a
  have d2 := dX9_in f 1 9
  have gi := GI_stains (RW_G hR) a f
  unfold OpR fX5_judgeStain fX8_refusedFor
  rw [nap_e hS]
  unfold fX9_stains at gi ⊢
  by_cases h1 : fX9_isNapkin G a = 0
  · left
    rw [if_pos h1, if_pos h1]
    exact ⟨rfl, by decide, rfl⟩
  rw [if_neg h1] at gi ⊢
  rw [if_neg h1]
  have ha : 0 ≤ a ∧ a < 10 := by omega
  by_cases h2 : fX9_in f 1 9 = 0
  · right; left
    have : f < 1 ∨ 9 < f := by unfold fX9_in at h2; (repeat' split at h2) <;> omega
    rw [if_pos h2]
    refine ⟨?_, by decide, rfl⟩
    (repeat' split) <;> omega
  rw [if_neg h2] at gi ⊢
  rw [if_neg (show ¬ f < 1 by omega), if_pos (show f ≤ 9 by omega)]
  have q := SR_j hS a ha.1 ha.2
  have w := RW_1525 hR ha
  have es : fX6_stainsOf C a = G 0 (35 + a) := by unfold fX6_stainsOf; rw [ofN_e ha.1 ha.2]; exact q.2.2.2.1
  have esN : fX6_stainsOf N a = G 0 (35 + a) := by unfold fX6_stainsOf; rw [ofN_e ha.1 ha.2, h0]; exact q.2.2.2.1
  rw [es]
  by_cases h3 : G 0 (35 + a) + f ≤ 9
  · right; right; right
    rw [if_pos h3] at gi ⊢
    rw [if_neg (show ¬ 9 < G 0 (35 + a) + f by omega)]
    have hN : CI N := CI_of0 h0 (RW_C hR)
    have ci := CI_addStains hN (n := a) (c := f) (by rw [esN]; omega)
    have e : fX6_addStains N a f = (G 0 (35 + a) + f, mst N 0 (30 + a) (G 0 (35 + a) + f)) := by
      unfold fX6_addStains
      rw [setN_in ha, esN]
    rw [e] at ci ⊢
    refine ⟨rfl, mst G 0 (35 + a) (G 0 (35 + a) + f), ?_, fun r hr => by rw [mst_o hr], ci, GI_of rfl gi, ?_⟩
    · show fX9_done _ (up (G 0) (35 + a) (G 0 (35 + a) + f) (35 + a)) = _
      rw [up_e]
    show SR (up (N 0) (30 + a) (G 0 (35 + a) + f)) (up (G 0) (35 + a) (G 0 (35 + a) + f))
    rw [h0]
    refine SR_cells hS (RW_6 hR) (fun z x y => ?_) (fun z x => ?_) (fun j x y => ?_) (fun j x y => ?_) ?_ ?_
    · simp (disch := omega) only [up_n]
    · simp (disch := omega) only [up_n]
    · have qj := SR_j hS j x y
      by_cases hj : j = a
      · subst hj
        refine ⟨?_, ?_, ?_, ?_, ?_⟩ <;> (simp (disch := omega) only [up_n, up_e]) <;> omega
      · refine ⟨?_, ?_, ?_, ?_, ?_⟩ <;> (simp (disch := omega) only [up_n]) <;> omega
    · have qz := SR_z hS j x y
      refine ⟨?_, ?_, ?_, ?_⟩ <;> (simp (disch := omega) only [up_n]) <;> omega
    · simp (disch := omega) only [up_n]
      exact m.2.1
    · simp (disch := omega) only [up_n]
      exact m.2.2.2
  · right; right; left
    rw [if_neg h3, if_pos (show 9 < G 0 (35 + a) + f by omega)]
    exact ⟨by omega, by omega, by rw [show (6 * 16 + G 0 (35 + a)) / 16 = 6 by omega, show (6 * 16 + G 0 (35 + a)) % 16 = G 0 (35 + a) by omega]⟩
theorem op_wash {C N G : Mem} (hR : RW (C 0) (G 0)) (h0 : N 0 = C 0) (a : Int) : OpR (fX5_judgeWash C a) (fX6_clean N a) G (fX9_washes G a) 1 0 2 := by
  have hS := RW_S hR
  have m := SR_m hS
  have d := dX9_isNapkin (RW_G hR) a
  have gi := GI_washes (RW_G hR) a
  have se := seat_e (RW_C hR) (RW_G hR) hS a
  unfold OpR fX5_judgeWash fX8_refusedFor
  rw [nap_e hS]
  unfold fX9_washes at gi ⊢
  by_cases h1 : fX9_isNapkin G a = 0
  · left
    rw [if_pos h1, if_pos h1]
    exact ⟨rfl, by decide, rfl⟩
  rw [if_neg h1] at gi ⊢
  rw [if_neg h1]
  have ha : 0 ≤ a ∧ a < 10 := by omega
  have q := SR_j hS a ha.1 ha.2
  have w := RW_1525 hR ha
  have es : fX6_stainsOf C a = G 0 (35 + a) := by unfold fX6_stainsOf; rw [ofN_e ha.1 ha.2]; exact q.2.2.2.1
  have esN : fX6_stainsOf N a = G 0 (35 + a) := by unfold fX6_stainsOf; rw [ofN_e ha.1 ha.2, h0]; exact q.2.2.2.1
  rw [es]
  rcases se with ⟨s1, s2, s3, s4⟩ | ⟨s1, s2, s3, s4, s5, s6, s7⟩
  · rw [if_pos s1] at gi ⊢
    rw [if_pos s2]
    by_cases h3 : G 0 (35 + a) = 0
    · right; right; left
      rw [if_pos h3, if_pos (show G 0 (35 + a) ≤ 0 by omega)]
      exact ⟨by omega, by omega, by rw [show (7 * 16 + a) / 16 = 7 by omega, show (7 * 16 + a) % 16 = a by omega]⟩
    · right; right; right
      rw [if_neg h3] at gi ⊢
      rw [if_neg (show ¬ G 0 (35 + a) ≤ 0 by omega)]
      have hN : CI N := CI_of0 h0 (RW_C hR)
      have ci := CI_clean hN a
      have e : fX6_clean N a = (G 0 (35 + a), mst (mst (mst N 0 (30 + a) 0) 0 (10 + a) 0) 0 79 (C 0 79 + G 0 (35 + a))) := by
        unfold fX6_clean
        rw [setN_in ha, setN_in ha, esN]
        show (_, mst _ 0 79 (up (up (N 0) (30 + a) 0) (10 + a) 0 79 + _)) = _
        rw [up_n (by omega), up_n (by omega), h0]
      rw [e] at ci ⊢
      refine ⟨rfl, mst (mst (mst G 0 (35 + a) 0) 0 (15 + a) 0) 0 4 ((mst (mst G 0 (35 + a) 0) 0 (15 + a) 0) 0 4 + G 0 (35 + a)), rfl, fun r hr => by rw [mst_o hr, mst_o hr, mst_o hr], ci, GI_of rfl gi, ?_⟩
      show SR (up (up (up (N 0) (30 + a) 0) (10 + a) 0) 79 (C 0 79 + G 0 (35 + a))) (up (up (up (G 0) (35 + a) 0) (15 + a) 0) 4 (up (up (G 0) (35 + a) 0) (15 + a) 0 4 + G 0 (35 + a)))
      rw [h0, up_n (show ¬ (4 : Int) = 15 + a by omega), up_n (show ¬ (4 : Int) = 35 + a by omega)]
      refine SR_cells hS (RW_6 hR) (fun z x y => ?_) (fun z x => ?_) (fun j x y => ?_) (fun j x y => ?_) ?_ ?_
      · simp (disch := omega) only [up_n]
      · simp (disch := omega) only [up_n]
      · have qj := SR_j hS j x y
        by_cases hj : j = a
        · subst hj
          refine ⟨?_, ?_, ?_, ?_, ?_⟩ <;> (simp (disch := omega) only [up_n, up_e]) <;> omega
        · refine ⟨?_, ?_, ?_, ?_, ?_⟩ <;> (simp (disch := omega) only [up_n]) <;> omega
      · have qz := SR_z hS j x y
        refine ⟨?_, ?_, ?_, ?_⟩ <;> (simp (disch := omega) only [up_n]) <;> omega
      · rw [up_e, up_e, m.2.1]
      · simp (disch := omega) only [up_n]
        exact m.2.2.2
  · right; right; left
    rw [if_neg (by omega), if_neg (by omega), s5]
    exact ⟨by omega, by omega, by rw [show (4 * 16 + fX6_tableUnder C a) / 16 = 4 by omega, show (4 * 16 + fX6_tableUnder C a) % 16 = fX6_tableUnder C a by omega, show (10 * fX6_tableUnder C a + fX6_placeUnder C a) / 10 = fX6_tableUnder C a by omega]⟩
theorem op_lay {C N G : Mem} (hR : RW (C 0) (G 0)) (h0 : N 0 = C 0) (a t : Int) : OpR (fX5_judgeLay C a t) (fX6_addLast N a t) G (fX9_lays G a t) 1 0 2 := by
  have hS := RW_S hR
  have d := dX9_isNapkin (RW_G hR) a
  have dt := dX9_isTable t
  have gi := GI_lays (RW_G hR) a t
  have se := seat_e (RW_C hR) (RW_G hR) hS a
  unfold OpR fX5_judgeLay fX8_refusedFor
  rw [nap_e hS, tab_e]
  unfold fX9_lays at gi ⊢
  by_cases h1 : fX9_isNapkin G a = 0
  · left
    rw [if_pos h1, if_pos h1]
    exact ⟨rfl, by decide, rfl⟩
  rw [if_neg h1] at gi ⊢
  rw [if_neg h1]
  by_cases h2 : fX9_isTable t = 0
  · left
    rw [if_pos h2, if_pos h2]
    exact ⟨rfl, by decide, rfl⟩
  rw [if_neg h2] at gi ⊢
  rw [if_neg h2]
  have ha : 0 ≤ a ∧ a < 10 := by omega
  have ht : 0 ≤ t ∧ t < 3 := by omega
  have l6 := RW_6 hR t ht.1 ht.2
  have el : fX6_laidOn C t = G 0 (55 + t) := by rw [laid_e ht]; exact (SR_t hS t ht.1 ht.2).1
  have elN : fX6_laidOn N t = G 0 (55 + t) := by rw [laid_e ht, h0]; exact (SR_t hS t ht.1 ht.2).1
  rw [el]
  rcases se with ⟨s1, s2, s3, s4⟩ | ⟨s1, s2, s3, s4, s5, s6, s7⟩
  · rw [if_pos s1] at gi ⊢
    rw [if_pos s2]
    by_cases h3 : G 0 (55 + t) = 6
    · right; right; left
      rw [if_pos h3, if_pos (show 6 ≤ G 0 (55 + t) by omega)]
      exact ⟨by decide, by decide, rfl⟩
    · right; right; right
      rw [if_neg h3] at gi ⊢
      rw [if_neg (show ¬ 6 ≤ G 0 (55 + t) by omega)]
      have hN : CI N := CI_of0 h0 (RW_C hR)
      have ci := CI_addLast hN (n := a) (t := t) (by omega) (by rw [elN]; omega)
      have e : fX6_addLast N a t = (G 0 (55 + t), fX6_insert N t (G 0 (55 + t)) a) := by
        unfold fX6_addLast
        rw [elN]
      rw [e] at ci ⊢
      refine ⟨rfl, mst (mst G 0 (64 + 6 * t + G 0 (55 + t)) a) 0 (55 + t) ((mst G 0 (64 + 6 * t + G 0 (55 + t)) a) 0 (55 + t) + 1), rfl, fun r hr => by rw [mst_o hr, mst_o hr], ci, GI_of rfl gi, ?_⟩
      refine SR_ins hS (RW_6 hR) ht l6.1 (Int.le_refl _) (by omega) (n := a) (by omega) s4 (fun z => ?_) (fun z => ?_)
      · show fX6_insert N t (G 0 (55 + t)) a 0 z = _
        rw [ins_e ht elN l6.1 (Int.le_refl _) (by omega), h0]
      · show up (up (G 0) (64 + 6 * t + G 0 (55 + t)) a) (55 + t) (up (G 0) (64 + 6 * t + G 0 (55 + t)) a (55 + t) + 1) z = _
        rw [up_n (show ¬ 55 + t = 64 + 6 * t + G 0 (55 + t) by omega)]
        by_cases hz : z = 64 + 6 * t + G 0 (55 + t)
        · rw [if_pos hz, up_n (by omega), hz, up_e]
        · rw [if_neg hz, if_neg (by omega)]
          by_cases hz2 : z = 55 + t
          · rw [if_pos hz2, hz2, up_e]
          · rw [if_neg hz2, up_n hz2, up_n hz]
  · right; right; left
    rw [if_neg (by omega), if_neg (by omega), s5]
    exact ⟨by omega, by omega, by rw [show (4 * 16 + fX6_tableUnder C a) / 16 = 4 by omega, show (4 * 16 + fX6_tableUnder C a) % 16 = fX6_tableUnder C a by omega, show (10 * fX6_tableUnder C a + fX6_placeUnder C a) / 10 = fX6_tableUnder C a by omega]⟩
theorem clo_o {M : Mem} {t p : Int} {r : Nat} (h : Nat.beq r 0 = false) : fX9_closesUp M t p r = M r := fr_fX9_closesUp t p h
theorem opn_o {M : Mem} {t p n : Int} {r : Nat} (h : Nat.beq r 0 = false) : fX9_opensAt M t p n r = M r := fr_fX9_opensAt t p n h
theorem op_take {C N G : Mem} (hR : RW (C 0) (G 0)) (h0 : N 0 = C 0) (a : Int) : OpR (fX5_judgeTake C a) (fX6_remove N a) G (fX9_takes G a) 1 0 2 := by
  have hS := RW_S hR
  have hN : CI N := CI_of0 h0 (RW_C hR)
  have d := dX9_isNapkin (RW_G hR) a
  have gi := GI_takes (RW_G hR) a
  have ci := CI_remove hN a
  have se := seat_e (RW_C hR) (RW_G hR) hS a
  have sN := seat_e hN (RW_G hR) (by rw [h0]; exact hS) a
  unfold OpR fX5_judgeTake fX8_refusedFor
  rw [nap_e hS]
  unfold fX9_takes at gi ⊢
  by_cases h1 : fX9_isNapkin G a = 0
  · left
    rw [if_pos h1, if_pos h1]
    exact ⟨rfl, by decide, rfl⟩
  rw [if_neg h1] at gi ⊢
  rw [if_neg h1]
  rcases se with ⟨s1, s2, s3, s4⟩ | ⟨s1, s2, s3, s4, s5, s6, s7⟩
  · right; right; left
    rw [if_pos s1, if_pos s2]
    exact ⟨by omega, by omega, by rw [show (5 * 16 + a) / 16 = 5 by omega, show (5 * 16 + a) % 16 = a by omega]⟩
  · right; right; right
    rw [if_neg (by omega)] at gi ⊢
    rw [if_neg (by omega)]
    rcases sN with ⟨r1, r2, r3, r4⟩ | ⟨r1, r2, r3, r4, r5, r6, r7⟩
    · omega
    · have l6 := RW_6 hR _ r1 r2
      have elN : fX6_laidOn N (fX6_tableUnder N a) = G 0 (55 + fX6_tableUnder N a) := by rw [laid_e ⟨r1, r2⟩, h0]; exact (SR_t hS _ r1 r2).1
      rw [r5, show (10 * fX6_tableUnder N a + fX6_placeUnder N a) / 10 = fX6_tableUnder N a by omega, show (10 * fX6_tableUnder N a + fX6_placeUnder N a) % 10 = fX6_placeUnder N a by omega] at gi ⊢
      refine ⟨rfl, fX9_closesUp G (fX6_tableUnder N a) (fX6_placeUnder N a), rfl, fun r hr => clo_o hr, ci, GI_of rfl gi, ?_⟩
      refine (SR_rem hS (RW_6 hR) ⟨r1, r2⟩ r3 r4 (fun z => ?_) (fun z => ?_)).1
      · show fX6_removeAt N _ _ 0 z = _
        rw [rem_e ⟨r1, r2⟩ elN l6.2 ⟨r3, r4⟩, h0]
      · rw [clo_e ⟨r1, r2⟩ ⟨r3, by omega⟩]
theorem op_move {C N G : Mem} (hR : RW (C 0) (G 0)) (h0 : N 0 = C 0) (t f g : Int) : OpR (fX5_judgeMove C t f g) (fX6_shift N t f g) G (fX9_moves G t f g) 1 0 2 := by
  have hS := RW_S hR
  have hN : CI N := CI_of0 h0 (RW_C hR)
  have dt := dX9_isTable t
  have gi := GI_moves (RW_G hR) t f g
  unfold OpR fX5_judgeMove fX8_refusedFor
  rw [tab_e]
  unfold fX9_moves at gi ⊢
  by_cases h1 : fX9_isTable t = 0
  · left
    rw [if_pos h1, if_pos h1]
    exact ⟨rfl, by decide, rfl⟩
  rw [if_neg h1] at gi ⊢
  rw [if_neg h1]
  have ht : 0 ≤ t ∧ t < 3 := by omega
  rw [plc_e hS ht, plc_e hS ht]
  have df := dX9_in f 0 (G 0 (55 + t) - 1)
  have dg := dX9_in g 0 (G 0 (55 + t) - 1)
  by_cases h2 : fX9_in f 0 (G 0 (55 + t) - 1) = 0
  · left
    rw [if_pos h2, if_pos h2]
    exact ⟨rfl, by decide, rfl⟩
  rw [if_neg h2] at gi ⊢
  rw [if_neg h2]
  by_cases h3 : fX9_in g 0 (G 0 (55 + t) - 1) = 0
  · left
    rw [if_pos h3, if_pos h3]
    exact ⟨rfl, by decide, rfl⟩
  rw [if_neg h3] at gi ⊢
  rw [if_neg h3]
  have l6 := RW_6 hR t ht.1 ht.2
  by_cases h4 : f = g
  · right; right; left
    rw [if_pos h4, if_pos h4]
    exact ⟨by omega, by omega, by rw [show (2 * 16 + g) / 16 = 2 by omega, show (2 * 16 + g) % 16 = g by omega]⟩
  · right; right; right
    rw [if_neg h4] at gi ⊢
    rw [if_neg h4]
    have elN : fX6_laidOn N t = G 0 (55 + t) := by rw [laid_e ht, h0]; exact (SR_t hS t ht.1 ht.2).1
    have ci := CI_shift hN (t := t) (f := f) (g := g) ht (by rw [elN]; omega) (by omega)
    have en : fX6_seatedAt N t f = G 0 (64 + 6 * t + f) := by rw [seated_e ht (by omega), h0]; exact (SR_s hS t f ht.1 ht.2 (by omega) (by omega)).1
    have lt := (SR_s hS t f ht.1 ht.2 (by omega) (by omega)).2
    have e : fX6_shift N t f g = (G 0 (64 + 6 * t + f), fX6_insert (fX6_removeAt N t f) t g (G 0 (64 + 6 * t + f))) := by
      unfold fX6_shift
      rw [en]
    rw [e] at ci ⊢
    refine ⟨rfl, fX9_opensAt (fX9_closesUp G t f) t g (fX9_at G t f), rfl, fun r hr => by rw [opn_o hr, clo_o hr], ci, GI_of rfl gi, ?_⟩
    -- in between
    have rc : ∀ z : Int, fX6_removeAt N t f 0 z = if 50 + t * 6 + f ≤ z ∧ z < 50 + t * 6 + (G 0 (55 + t) - 1) then C 0 (z + 1) else if z = 68 + t then G 0 (55 + t) - 1 else C 0 z := fun z => by
      rw [rem_e ht elN l6.2 (by omega), h0]
    have rg : ∀ z : Int, fX9_closesUp G t f 0 z = _ := fun z => clo_e ht (by omega) z
    obtain ⟨r1, r2⟩ := SR_rem hS (RW_6 hR) ht (p := f) (by omega) (by omega) rc rg
    have m55 : ∀ u : Int, 0 ≤ u → u < 3 → fX9_closesUp G t f 0 (55 + u) = if u = t then G 0 (55 + t) - 1 else G 0 (55 + u) := fun u a b => by
      by_cases hu : u = t
      · rw [if_pos hu, hu, rg, if_neg (by omega), if_neg (by omega), if_pos rfl]
      · rw [if_neg hu, rg, if_neg (by omega), if_neg (by omega), if_neg (by omega)]
    have m6 : ∀ u : Int, 0 ≤ u → u < 3 → 0 ≤ fX9_closesUp G t f 0 (55 + u) ∧ fX9_closesUp G t f 0 (55 + u) ≤ 6 := fun u a b => by
      have := RW_6 hR u a b
      rw [m55 u a b]
      split <;> omega
    have mt : fX9_closesUp G t f 0 (55 + t) = G 0 (55 + t) - 1 := by rw [m55 t ht.1 ht.2, if_pos rfl]
    have m0 : fX9_closesUp G t f 0 0 = G 0 0 := by rw [rg, if_neg (by omega), if_neg (by omega), if_neg (by omega)]
    have elR : fX6_laidOn (fX6_removeAt N t f) t = fX9_closesUp G t f 0 (55 + t) := by rw [claid_removeAt hN ht (by omega), elN, mt]
    refine SR_ins r1 m6 ht (p := g) (n := G 0 (64 + 6 * t + f)) (by omega) (by omega) (by omega) (by omega) r2 (fun z => ?_) (fun z => ?_)
    · show fX6_insert (fX6_removeAt N t f) t g _ 0 z = _
      rw [ins_e ht elR (by omega) (by omega) (by omega)]
    · rw [opn_e ht (by omega) (by omega) (by omega)]
      rfl
theorem op_read {C N G : Mem} (hR : RW (C 0) (G 0)) (h0 : N 0 = C 0) (t : Int) : OpR (fX5_judgeRead C t).1 (fX5_readByHost N t) G (fX9_hosts G t) 1 0 2 := by
  have hS := RW_S hR
  have hG := RW_G hR
  have hN : CI N := CI_of0 h0 (RW_C hR)
  have m := SR_m hS
  have dt := dX9_isTable t
  have gi := GI_hosts hG t
  have ci := CI_readByHost hN t
  unfold OpR fX5_judgeRead fX8_refusedFor fX4_size
  rw [tab_e]
  by_cases h1 : fX9_isTable t = 0
  · left
    unfold fX9_hosts
    rw [if_pos h1, if_pos h1]
    exact ⟨rfl, by decide, rfl⟩
  rw [if_neg h1]
  have ht : 0 ≤ t ∧ t < 3 := by omega
  have l6 := RW_6 hR t ht.1 ht.2
  have hs := hear_S hS hG ht
  have hsN : HS (fX4_hear N t) G t := hear_S (by rw [h0]; exact hS) hG ht
  have q := SR_t hS t ht.1 ht.2
  rw [hs.1]
  by_cases h2 : fX9_countOf G t 0 = 0
  · right; right; left
    unfold fX9_hosts
    rw [if_neg h1, if_pos h2, if_pos (show fX9_countOf G t 0 ≤ 0 by omega)]
    have el : fX6_laidOn (fX4_hear C t) t = G 0 (55 + t) := by rw [laid_e ht, hear_0]; exact q.1
    show _ ∧ _ ∧ _ = fX9_refused G ((8 * 16 + fX6_laidOn (fX4_hear C t) t) / 16) ((8 * 16 + fX6_laidOn (fX4_hear C t) t) % 16) 2
    rw [el]
    exact ⟨by show (16 : Int) ≤ 8 * 16 + G 0 (55 + t); omega, by show 8 * 16 + G 0 (55 + t) ≤ (159 : Int); omega, by rw [show (8 * 16 + G 0 (55 + t)) / 16 = 8 by omega, show (8 * 16 + G 0 (55 + t)) % 16 = G 0 (55 + t) by omega]⟩
  · right; right; right
    rw [if_neg (show ¬ fX9_countOf G t 0 ≤ 0 by have := hs.2.1; omega)]
    have hp := phr_e hG ht hsN
    have e : ∃ d : Int, d = (if fX9_phrasesOf G t = 0 then 1 else 0) ∧ fX9_hosts G t = fX9_done (mst (mst (mst (mst G 0 (58 + t) (G 0 (58 + t) + 1)) 0 1 (G 0 1 + fX9_phrasesOf G t)) 0 2 (G 0 2 + d)) 0 (61 + t) (G 0 (61 + t) + d)) (fX9_phrasesOf G t) ∧ fX5_readByHost N t = (fX9_phrasesOf G t, (fX5_readByHost N t).2) ∧ (fX5_readByHost N t).2 0 = up (up (up (C 0) (71 + t) (C 0 (71 + t) + 1)) (74 + t) (C 0 (74 + t) + d)) 78 (C 0 78 + fX9_phrasesOf G t) := by
      have a1 : (mst G 0 (58 + t) (G 0 (58 + t) + 1)) 0 1 = G 0 1 := up_n (by omega)
      have a2 : ∀ v w : Int, (mst (mst G 0 (58 + t) v) 0 1 w) 0 2 = G 0 2 := fun v w => by
        show up (up (G 0) (58 + t) v) 1 w 2 = _
        rw [up_n (by decide), up_n (by omega)]
      have a3 : ∀ v w x : Int, (mst (mst (mst G 0 (58 + t) v) 0 1 w) 0 2 x) 0 (61 + t) = G 0 (61 + t) := fun v w x => by
        show up (up (up (G 0) (58 + t) v) 1 w) 2 x (61 + t) = _
        rw [up_n (by omega), up_n (by omega), up_n (by omega)]
      have c0 : fX4_hear N t 0 = C 0 := (hear_0 N t).trans h0
      refine ⟨_, rfl, ?_, ?_, ?_⟩
      · unfold fX9_hosts
        rw [if_neg h1, if_neg h2]
        simp only [a1, a2, a3]
        by_cases h3 : fX9_phrasesOf G t = 0
        · rw [if_pos h3, if_pos h3, if_pos h3]
        · rw [if_neg h3, if_neg h3, if_neg h3]
      · unfold fX5_readByHost
        rw [hp]
      · show fX6_noteReading (fX4_hear N t) t (fX4_phraseCount (fX4_hear N t)) 0 = _
        rw [hp]
        unfold fX6_noteReading fX6_readingsOf fX6_puzzlesOf
        by_cases h3 : fX9_phrasesOf G t = 0
        · rw [if_pos h3, if_pos h3]
          simp only [setT_in ht, ofT_e ht, c0]
          show up (up (up (fX4_hear N t 0) (71 + t) (C 0 (71 + t) + 1)) (74 + t) (up (fX4_hear N t 0) (71 + t) (C 0 (71 + t) + 1) (74 + t) + 1)) 78 (up (up (fX4_hear N t 0) (71 + t) (C 0 (71 + t) + 1)) (74 + t) (up (fX4_hear N t 0) (71 + t) (C 0 (71 + t) + 1) (74 + t) + 1) 78 + fX9_phrasesOf G t) = _
          rw [c0, up_n (show ¬ 74 + t = 71 + t by omega), up_n (show ¬ (78 : Int) = 74 + t by omega), up_n (show ¬ (78 : Int) = 71 + t by omega)]
        · rw [if_neg h3, if_neg h3]
          simp only [setT_in ht, ofT_e ht, c0]
          show up (up (fX4_hear N t 0) (71 + t) (C 0 (71 + t) + 1)) 78 (up (fX4_hear N t 0) (71 + t) (C 0 (71 + t) + 1) 78 + fX9_phrasesOf G t) = _
          rw [c0, up_n (show ¬ (78 : Int) = 71 + t by omega)]
          funext z
          by_cases hz : z = 78
          · rw [hz, up_e, up_e]
          · rw [up_n hz, up_n hz]
            by_cases hz2 : z = 74 + t
            · rw [hz2, up_e, up_n (by omega)]
              omega
            · rw [up_n hz2]
    obtain ⟨dd, hd, e1, e2, e3⟩ := e
    rw [e1] at gi ⊢
    refine ⟨rfl, mst (mst (mst (mst G 0 (58 + t) (G 0 (58 + t) + 1)) 0 1 (G 0 1 + fX9_phrasesOf G t)) 0 2 (G 0 2 + dd)) 0 (61 + t) (G 0 (61 + t) + dd), by rw [e2], fun r hr => by rw [mst_o hr, mst_o hr, mst_o hr, mst_o hr], ci, GI_of rfl gi, ?_⟩
    rw [e3]
    show SR _ (up (up (up (up (G 0) (58 + t) (G 0 (58 + t) + 1)) 1 (G 0 1 + fX9_phrasesOf G t)) 2 (G 0 2 + dd)) (61 + t) (G 0 (61 + t) + dd))
    refine ⟨?_, fun j x y => ?_, fun j x y => ?_, fun u x y => ?_, fun u p x y z w => ?_, fun u p v r x y z w x' y' z' w' f => ?_, ?_⟩
    · simp (disch := omega) only [up_n]
      exact SR_n hS
    · simp (disch := omega) only [up_n]
      exact SR_j hS j x y
    · have nn := SR_n hS
      simp (disch := omega) only [up_n] at x
      simp (disch := omega) only [up_n]
      exact SR_z hS j x y
    · have qu := SR_t hS u x y
      by_cases hu : u = t
      · subst hu
        refine ⟨?_, ?_, ?_⟩ <;> (simp (disch := omega) only [up_n, up_e]) <;> omega
      · refine ⟨?_, ?_, ?_⟩ <;> (simp (disch := omega) only [up_n]) <;> omega
    · simp (disch := omega) only [up_n] at w
      have u6 := RW_6 hR u x y
      simp (disch := omega) only [up_n]
      exact SR_s hS u p x y z w
    · simp (disch := omega) only [up_n] at w w' f
      exact SR_u hS u p v r x y z w x' y' z' w' f
    · refine ⟨?_, ?_, ?_, ?_⟩
      · rw [up_e]
        simp (disch := omega) only [up_n, up_e]
        omega
      · simp (disch := omega) only [up_n]
        exact m.2.1
      · have s := sum_3 (g := up (up (up (G 0) (58 + t) (G 0 (58 + t) + 1)) 1 (G 0 1 + fX9_phrasesOf G t)) 2 (G 0 2 + dd)) (v := G 0 (61 + t) + dd) ht
        rw [s]
        simp (disch := omega) only [up_n, up_e]
        omega
      · simp (disch := omega) only [up_n]
        exact m.2.2.2
