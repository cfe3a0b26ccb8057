/-! A READ, done whole or not at all, alike. -/
theorem ro_all {C G M : Mem} (h : TX C G) (hM : tcM M = tcM G) (h28 : M 28 0 = 0) (h0 : 0 ≤ M 27 0) (k : Int) :
    (∃ co : Int, 0 ≤ co ∧ co < 9 ∧ tcM G (M 27 0) = letC co ∧ RdO C G M (fX9_readsOrder M k) co k) ∨ ((∀ co : Int, 0 ≤ co → co < 9 → ¬ tcM G (M 27 0) = letC co) ∧ bq (fX9_readsOrder M k) = (1, M 27 0)) := by
  by_cases h1 : tcM G (M 27 0) = 110
  · exact Or.inl ⟨0, by decide, by decide, h1, ro_0 h hM h28 h0 k h1⟩
  by_cases h2 : tcM G (M 27 0) = 102
  · exact Or.inl ⟨1, by decide, by decide, h2, ro_1 h hM h28 h0 k h2⟩
  by_cases h3 : tcM G (M 27 0) = 111
  · exact Or.inl ⟨2, by decide, by decide, h3, ro_2 h hM h28 h0 k h3⟩
  by_cases h4 : tcM G (M 27 0) = 116
  · exact Or.inl ⟨3, by decide, by decide, h4, ro_3 h hM h28 h0 k h4⟩
  by_cases h5 : tcM G (M 27 0) = 119
  · exact Or.inl ⟨4, by decide, by decide, h5, ro_4 h hM h28 h0 k h5⟩
  by_cases h6 : tcM G (M 27 0) = 114
  · exact Or.inl ⟨5, by decide, by decide, h6, ro_5 h hM h28 h0 k h6⟩
  by_cases h7 : tcM G (M 27 0) = 108
  · exact Or.inl ⟨6, by decide, by decide, h7, ro_6 h hM h28 h0 k h7⟩
  by_cases h8 : tcM G (M 27 0) = 109
  · exact Or.inl ⟨7, by decide, by decide, h8, ro_7 h hM h28 h0 k h8⟩
  by_cases h9 : tcM G (M 27 0) = 115
  · exact Or.inl ⟨8, by decide, by decide, h9, ro_8 h hM h28 h0 k h9⟩
  · right
    refine ⟨fun co a b e => ?_, ?_⟩
    · have c : co = 0 ∨ co = 1 ∨ co = 2 ∨ co = 3 ∨ co = 4 ∨ co = 5 ∨ co = 6 ∨ co = 7 ∨ co = 8 := by omega
      rcases c with rfl | rfl | rfl | rfl | rfl | rfl | rfl | rfl | rfl
      · exact h1 e
      · exact h2 e
      · exact h3 e
      · exact h4 e
      · exact h5 e
      · exact h6 e
      · exact h7 e
      · exact h8 e
      · exact h9 e
    · have hh : fX9_here M = tcM G (M 27 0) := by rw [here_e, hM]
      unfold fX9_readsOrder
      rw [hh, if_neg h2, if_neg h7, if_neg h8, if_neg h1, if_neg h3, if_neg h6, if_neg h9, if_neg h4, if_neg h5]
      show ((1 : Int), M 27 0 + 1 - 1) = _
      rw [show M 27 0 + 1 - 1 = M 27 0 by omega]
/-- d orders from s on, the i-th of all, as they are told in T -/
def Tld (C : Mem) (T : Int → Int) : Nat → Int → Int → Prop
  | 0, s, _ => fX7_commandAt C s = -1
  | d + 1, s, i => ∃ co : Int, fX7_commandAt C s = co ∧ 0 ≤ co ∧ co < 9 ∧ s + fX1_length co ≤ 60 ∧ T (4 * i) = letC co ∧ T (4 * i + 1) = fX7_argument C co s 0 ∧ ((co = 1 ∨ co = 6 ∨ co = 7 ∨ co = 8) → T (4 * i + 2) = fX7_argument C co s 1) ∧ (co = 7 → T (4 * i + 3) = fX7_argument C co s 2) ∧ Tld C T d (s + (fX1_length co + 1)) (i + 1)
theorem Tld_c {C : Mem} {T T' : Int → Int} : ∀ (d : Nat) (s i : Int), (∀ z : Int, 4 * i ≤ z → T' z = T z) → Tld C T d s i → Tld C T' d s i := by
  intro d
  induction d with
  | zero => intro s i _ h; exact h
  | succ d ih =>
    intro s i hz h
    obtain ⟨co, a1, a2, a3, a4, a5, a6, a7, a8, a9⟩ := h
    exact ⟨co, a1, a2, a3, a4, by rw [hz _ (by omega)]; exact a5, by rw [hz _ (by omega)]; exact a6, fun q => by rw [hz _ (by omega)]; exact a7 q, fun q => by rw [hz _ (by omega)]; exact a8 q, ih _ _ (fun z hz2 => hz z (by omega)) a9⟩
theorem mm67 : ∀ r ∈ ([0, 1, 2, 3, 4, 5, 13, 15, 17, 18, 19, 20, 21, 22, 23, 25, 26] : List Nat), Nat.beq r 6 = false ∧ Nat.beq r 27 = false ∧ Nat.beq r 28 = false := by decide
theorem par_L {C G M0 : Mem} (h : TX C G) : ∀ (k k' : Nat) (Mx : Mem) (n : Int), (∀ r ∈ ([0, 1, 2, 3, 4, 5, 13, 15, 17, 18, 19, 20, 21, 22, 23, 25, 26] : List Nat), Mx r = G r) → RI Mx → TL Mx → Mx 28 0 = 0 → 0 ≤ n → 6 * n ≤ Mx 27 0 → Mx 27 0 ≤ G 17 0 → 61 - Mx 27 0 < k → 61 - Mx 27 0 < k' →
    (∃ (e : Int) (My : Mem), 0 ≤ e ∧ e ≤ 60 ∧ fX7_errorAt_L1 C k' (Mx 27 0) n = e ∧ fX9_read_L1 M0 k Mx n 1 = fX9_fails (msf (msf (msf My 28 1) 17 0) 18 e) 1 ∧ RI My ∧ TL My ∧ (∀ r ∈ ([0, 1, 2, 3, 4, 5, 13, 15, 17, 18, 19, 20, 21, 22, 23, 25, 26] : List Nat), My r = G r)) ∨
    (∃ (d : Nat) (My : Mem), fX7_errorAt_L1 C k' (Mx 27 0) n = -1 ∧ fX9_read_L1 M0 k Mx n 1 = fX9_read_L2 M0 (n + d) 0 33 (fX9_looksBack (msf (msf My 28 0) 17 0)) 0 ∧ RI My ∧ TL My ∧ (∀ r ∈ ([0, 1, 2, 3, 4, 5, 13, 15, 17, 18, 19, 20, 21, 22, 23, 25, 26] : List Nat), My r = G r) ∧ Tld C (My 6) d (Mx 27 0) n ∧ (∀ z : Int, z < 4 * n → My 6 z = Mx 6 z) ∧ n + d ≤ 11) := by
  have hn := h.2.1
  intro k
  induction k with
  | zero => intro k' Mx n _ hRI _ _ _ _ h6 h7 _; exfalso; have := RI_27 hRI; omega
  | succ k ih =>
    intro k' Mx n hf hRI hTL h28 hn0 h6 hs hk hk'
    cases k' with
    | zero => exfalso; omega
    | succ k' =>
      have s0 := RI_27 hRI
      have hM : tcM Mx = tcM G := tc_of (hf 4 (by decide)) (hf 17 (by decide))
      have nf : ∀ r ∈ ([0, 1, 2, 3, 4, 5, 13, 15, 17, 18, 19, 20, 21, 22, 23, 25, 26] : List Nat), fX9_readsOrder Mx (4 * n) r = G r := fun r hr => by
        obtain ⟨a, b, c⟩ := mm67 r hr
        rw [fr_fX9_readsOrder _ a b c]
        exact hf r hr
      have nRI := RI_readsOrder hRI hTL (4 * n)
      have nTL := TL_readsOrder hRI hTL (4 * n)
      have nM : tcM (fX9_readsOrder Mx (4 * n)) = tcM G := tc_of (nf 4 (by decide)) (nf 17 (by decide))
      have ro := ro_all h hM h28 s0.1 (4 * n)
      rw [fX9_read_L1, if_neg (show ¬ (1 : Int) = 0 by decide), fX7_errorAt_L1, if_neg (show ¬ 60 < n by omega)]
      have e17 : fX9_readsOrder Mx (4 * n) 17 0 = G 17 0 := by rw [nf 17 (by decide)]
      generalize fX9_readsOrder Mx (4 * n) = N at *
      have n27 := RI_27 nRI
      -- the model stops with an error at e
      have stop : ∀ e : Int, N 27 0 = e → ¬ N 28 0 = 0 ∨ (N 28 0 = 0 ∧ N 27 0 < G 17 0) → fX9_read_L1 M0 k (msf N 27 (N 27 0 + 0)) (n + 1) 0 = fX9_fails (msf (msf (msf (msf N 27 (N 27 0 + 0)) 28 1) 17 0) 18 e) 1 := by
        intro e he hw
        have q27 : msf N 27 (N 27 0 + 0) 27 0 = e := by rw [msf_s, Int.add_zero]; exact he
        have q28 : msf N 27 (N 27 0 + 0) 28 0 = N 28 0 := by rw [msf_o (k := 27) (r := 28) rfl]
        have q17 : msf N 27 (N 27 0 + 0) 17 0 = G 17 0 := by rw [msf_o (k := 27) (r := 17) rfl]; exact e17
        cases k with
        | zero => exfalso; omega
        | succ k =>
          rw [fX9_read_L1, if_pos rfl, q28, q17, q27]
          rcases hw with hw | ⟨hw, hw2⟩
          · rw [if_neg hw]
          · rw [if_pos hw, if_neg (by omega)]
      have fm : ∀ r ∈ ([0, 1, 2, 3, 4, 5, 13, 15, 17, 18, 19, 20, 21, 22, 23, 25, 26] : List Nat), ∀ v : Int, msf N 27 v r = G r := fun r hr v => by
        obtain ⟨a, b, c⟩ := mm67 r hr
        rw [msf_o b]
        exact nf r hr
      rcases ro with ⟨co, c0, c9, hl, r1, r2, r3, r4⟩ | ⟨hl, r1⟩
      · have f := form_e ⟨c0, c9⟩
        have hcm := cmd_e h ⟨c0, c9⟩ s0.1 hl
        by_cases hm : mtL (tcM G) (formL co) (Mx 27 0) = (formL co).length
        · -- an order
          rw [if_pos hm] at r1 hcm
          have b28 : N 28 0 = 0 := congrArg Prod.fst r1
          have b27 : N 27 0 = Mx 27 0 + (formL co).length := congrArg Prod.snd r1
          obtain ⟨r4a, r4b, r4c⟩ := r4 hm
          have hin := mt_in G (formL co) (Mx 27 0) (formpos ⟨c0, c9⟩) (by omega) hm
          rw [hcm, if_neg (show ¬ co < 0 by omega), f.1, if_pos b28, h.1]
          have hT : ∀ T : Int → Int, (∀ z : Int, z < 4 * n + 4 → T z = N 6 z) → ∀ d : Nat, Tld C T d (Mx 27 0 + ((formL co).length + 1)) (n + 1) → Tld C T (d + 1) (Mx 27 0) n := fun T hT d hd =>
            ⟨co, hcm, c0, c9, by rw [f.1]; omega, by rw [hT _ (by omega)]; exact r3, by rw [hT _ (by omega)]; exact r4a, fun q => by rw [hT _ (by omega)]; exact r4b q, fun q => by rw [hT _ (by omega)]; exact r4c q, by rw [f.1]; exact hd⟩
          have hh : fX9_here N = tcM G (Mx 27 0 + (formL co).length) := by rw [here_e, nM, b27]
          by_cases hlt : Mx 27 0 + (formL co).length < G 17 0
          · rw [if_pos hlt, sg_e h (by omega) hlt, hh]
            by_cases h59 : tcM G (Mx 27 0 + (formL co).length) = 59
            · -- a further one
              rw [if_pos h59, if_pos h59]
              have q27 : msf N 27 (N 27 0 + 1) 27 0 = Mx 27 0 + (formL co).length + 1 := by rw [msf_s, b27]
              have q := ih k' (msf N 27 (N 27 0 + 1)) (n + 1) (fun r hr => fm r hr _) (RI_27s nRI (by omega)) (fun j a b => nTL j a b) (by rw [msf_o (k := 27) (r := 28) rfl]; exact b28) (by omega) (by rw [q27]; omega) (by rw [q27]; omega) (by rw [q27]; omega) (by rw [q27]; omega)
              rw [q27, show Mx 27 0 + ((formL co).length : Int) + 1 = Mx 27 0 + ((formL co).length + 1) by omega] at q
              rw [show Mx 27 0 + ((formL co).length : Int) + 1 = Mx 27 0 + ((formL co).length + 1) by omega]
              rcases q with ⟨e, My, p1, p2, p3, p4, p5, p6, p7⟩ | ⟨d, My, p1, p2, p3, p4, p5, p6, p7, p8⟩
              · exact Or.inl ⟨e, My, p1, p2, p3, p4, p5, p6, p7⟩
              · refine Or.inr ⟨d + 1, My, p1, by rw [p2, show n + 1 + (d : Int) = n + ((d + 1 : Nat) : Int) by omega], p3, p4, p5, hT _ (fun z hz => ?_) d p6, fun z hz => ?_, by omega⟩
                · rw [p7 z (by omega), msf_o (k := 27) (r := 6) rfl]
                · rw [p7 z (by omega), msf_o (k := 27) (r := 6) rfl]
                  exact r2 z (Or.inl hz)
            · rw [if_neg h59, if_neg h59]
              exact Or.inl ⟨_, _, by omega, by omega, rfl, stop _ b27 (Or.inr ⟨b28, by omega⟩), RI_27s nRI (by omega), fun j a b => nTL j a b, fun r hr => fm r hr _⟩
          · -- the last
            have ht1 : tcM G (Mx 27 0 + (formL co).length) = -1 := if_pos (by omega)
            rw [if_neg hlt, hh, if_neg (by rw [ht1]; decide)]
            refine Or.inr ⟨1, msf N 27 (N 27 0 + 0), rfl, ?_, RI_27s nRI (by omega), fun j a b => nTL j a b, fun r hr => fm r hr _, hT _ (fun z hz => by rw [msf_o (k := 27) (r := 6) rfl]) 0 ?_, fun z hz => by rw [msf_o (k := 27) (r := 6) rfl]; exact r2 z (Or.inl hz), by omega⟩
            · cases k with
              | zero => exfalso; omega
              | succ k =>
                rw [fX9_read_L1, if_pos rfl, if_pos (show msf N 27 (N 27 0 + 0) 28 0 = 0 by rw [msf_o (k := 27) (r := 28) rfl]; exact b28), if_pos (show msf N 27 (N 27 0 + 0) 17 0 ≤ msf N 27 (N 27 0 + 0) 27 0 by rw [msf_s, msf_o (k := 27) (r := 17) rfl, e17]; omega)]
                rfl
            · show fX7_commandAt C (Mx 27 0 + ((formL co).length + 1)) = -1
              refine cmd_n h (by omega) (fun c a b => ?_) 10 0 (by decide) (by decide) (by decide)
              rw [show tcM G (Mx 27 0 + ((formL co).length + 1)) = -1 from if_pos (by omega)]
              have lp : ∀ c : Fin 9, ¬ (-1 : Int) = letC (c.val : Int) := by decide
              obtain ⟨x, rfl⟩ := Int.eq_ofNat_of_zero_le a
              exact lp ⟨x, by omega⟩
        · -- no order
          rw [if_neg hm] at r1 hcm
          have b28 : N 28 0 = 1 := congrArg Prod.fst r1
          have b27 : N 27 0 = Mx 27 0 + mtL (tcM G) (formL co) (Mx 27 0) := congrArg Prod.snd r1
          rw [hcm, if_pos (show (-1 : Int) < 0 by decide), lng_e h ⟨c0, c9⟩ s0.1 hl, if_neg (show ¬ N 28 0 = 0 by omega)]
          have mr := mt_r (tcM G) (formL co) (Mx 27 0)
          exact Or.inl ⟨_, _, by omega, by omega, rfl, stop _ b27 (Or.inl (by omega)), RI_27s nRI (by omega), fun j a b => nTL j a b, fun r hr => fm r hr _⟩
      · have b28 : N 28 0 = 1 := congrArg Prod.fst r1
        have b27 : N 27 0 = Mx 27 0 := congrArg Prod.snd r1
        have hcm : fX7_commandAt C (Mx 27 0) = -1 := cmd_n h s0.1 hl 10 0 (by decide) (by decide) (by decide)
        have hlg : fX7_longestMatch C (Mx 27 0) = 0 := lng_n h s0.1 hl 10 0 (by decide) (by decide) (by decide)
        rw [hcm, if_pos (show (-1 : Int) < 0 by decide), hlg, if_neg (show ¬ N 28 0 = 0 by omega)]
        exact Or.inl ⟨_, _, by omega, by omega, rfl, stop _ (by omega) (Or.inl (by omega)), RI_27s nRI (by omega), fun j a b => nTL j a b, fun r hr => fm r hr _⟩
/-! the same text in other cells -/
theorem sg_c {A C : Mem} (h10 : A 10 = C 10) (h11 : A 11 = C 11) (i : Int) : fX7_signAt A i = fX7_signAt C i := by unfold fX7_signAt; rw [h10, h11]
theorem mat_c {A C : Mem} (h10 : A 10 = C 10) (h11 : A 11 = C 11) (co s : Int) : ∀ (k : Nat) (i : Int), fX7_matched_L1 A co s k i = fX7_matched_L1 C co s k i := by
  intro k
  induction k with
  | zero => intro i; rfl
  | succ k ih => intro i; rw [fX7_matched_L1, fX7_matched_L1, h11, sg_c h10 h11, ih]
theorem cmd_c {A C : Mem} (h10 : A 10 = C 10) (h11 : A 11 = C 11) (s : Int) : fX7_commandAt A s = fX7_commandAt C s := by
  have key : ∀ (k : Nat) (i : Int), fX7_commandAt_L1 A s k i = fX7_commandAt_L1 C s k i := by
    intro k
    induction k with
    | zero => intro i; rfl
    | succ k ih =>
      intro i
      rw [fX7_commandAt_L1, fX7_commandAt_L1, ih, show fX7_matched A i s = fX7_matched C i s from mat_c h10 h11 i s 11 0]
  exact key 10 0
theorem arg_c {A C : Mem} (h10 : A 10 = C 10) (h11 : A 11 = C 11) (co s num : Int) : fX7_argument A co s num = fX7_argument C co s num := by
  have key : ∀ (k : Nat) (a i : Int), fX7_argument_L1 A co s num k a i = fX7_argument_L1 C co s num k a i := by
    intro k
    induction k with
    | zero => intro a i; rfl
    | succ k ih =>
      intro a i
      rw [fX7_argument_L1, fX7_argument_L1]
      simp only [ih, sg_c h10 h11]
  exact key 11 0 0
/-- an order of a text: judged and carried out, or done by the model -/
theorem does_R {A N B : Mem} (hR : RW (A 0) (B 0)) (h0 : N 0 = A 0) {co a b d k : Int} (hc : 0 ≤ co ∧ co < 9) (t0 : B 6 k = letC co) (t1 : B 6 (k + 1) = a) (t2 : (co = 1 ∨ co = 6 ∨ co = 7 ∨ co = 8) → B 6 (k + 2) = b) (t3 : co = 7 → B 6 (k + 3) = d) : ∃ n1 n2 n3 : Int, ¬ n3 = 0 ∧ OpR (fX5_judge A co a b d).1 (fX5_carryOut N co a b d) B (fX9_does B k) n1 n2 n3 := by
  have c : co = 0 ∨ co = 1 ∨ co = 2 ∨ co = 3 ∨ co = 4 ∨ co = 5 ∨ co = 6 ∨ co = 7 ∨ co = 8 := by omega
  rcases c with rfl | rfl | rfl | rfl | rfl | rfl | rfl | rfl | rfl
  · have eJ : (fX5_judge A 0 a b d).1 = fX5_judgeNew A a := by
      unfold fX5_judge
      rw [if_pos (by decide)]
    have eC : fX5_carryOut N 0 a b d = fX6_addNapkin N a := by
      unfold fX5_carryOut
      rw [if_pos (by decide)]
    have eD : fX9_does B k = fX9_comes B a := by
      unfold fX9_does
      rw [t0, if_neg (by decide), if_neg (by decide), if_neg (by decide), if_pos (by decide), t1]
    rw [eJ, eC, eD]
    have q := op_new hR h0 a
    exact ⟨0, 1, 2, by decide, q⟩
  · have eJ : (fX5_judge A 1 a b d).1 = fX5_judgeFold A a b := by
      unfold fX5_judge
      rw [if_neg (by decide), if_pos (by decide)]
    have eC : fX5_carryOut N 1 a b d = fX6_foldTo N a b (fX5_creasesFor b) := by
      unfold fX5_carryOut
      rw [if_neg (by decide), if_pos (by decide)]
    have eD : fX9_does B k = fX9_folds B a b := by
      unfold fX9_does
      rw [t0, if_pos (by decide), t1, t2 (by decide)]
    rw [eJ, eC, eD]
    have q := op_fold hR h0 a b
    exact ⟨1, 2, 3, by decide, q⟩
  · have eJ : (fX5_judge A 2 a b d).1 = fX5_judgeOpen A a := by
      unfold fX5_judge
      rw [if_neg (by decide), if_neg (by decide), if_pos (by decide)]
    have eC : fX5_carryOut N 2 a b d = fX6_open N a := by
      unfold fX5_carryOut
      rw [if_neg (by decide), if_neg (by decide), if_pos (by decide)]
    have eD : fX9_does B k = fX9_unfolds B a := by
      unfold fX9_does
      rw [t0, if_neg (by decide), if_neg (by decide), if_neg (by decide), if_neg (by decide), if_pos (by decide), t1]
    rw [eJ, eC, eD]
    have q := op_open hR h0 a
    exact ⟨1, 0, 2, by decide, q⟩
  · have eJ : (fX5_judge A 3 a b d).1 = fX5_judgeTake A a := by
      unfold fX5_judge
      rw [if_neg (by decide), if_neg (by decide), if_neg (by decide), if_neg (by decide), if_pos (by decide)]
    have eC : fX5_carryOut N 3 a b d = fX6_remove N a := by
      unfold fX5_carryOut
      rw [if_neg (by decide), if_neg (by decide), if_neg (by decide), if_neg (by decide), if_pos (by decide)]
    have eD : fX9_does B k = fX9_takes B a := by
      unfold fX9_does
      rw [t0, if_neg (by decide), if_neg (by decide), if_neg (by decide), if_neg (by decide), if_neg (by decide), if_neg (by decide), if_pos (by decide), t1]
    rw [eJ, eC, eD]
    have q := op_take hR h0 a
    exact ⟨1, 0, 2, by decide, q⟩
  · have eJ : (fX5_judge A 4 a b d).1 = fX5_judgeWash A a := by
      unfold fX5_judge
      rw [if_neg (by decide), if_neg (by decide), if_neg (by decide), if_neg (by decide), if_neg (by decide), if_neg (by decide), if_neg (by decide), if_pos (by decide)]
    have eC : fX5_carryOut N 4 a b d = fX6_clean N a := by
      unfold fX5_carryOut
      rw [if_neg (by decide), if_neg (by decide), if_neg (by decide), if_neg (by decide), if_neg (by decide), if_neg (by decide), if_neg (by decide), if_pos (by decide)]
    have eD : fX9_does B k = fX9_washes B a := by
      unfold fX9_does
      rw [t0, if_neg (by decide), if_neg (by decide), if_neg (by decide), if_neg (by decide), if_neg (by decide), if_neg (by decide), if_neg (by decide), if_pos (by decide), t1]
    rw [eJ, eC, eD]
    have q := op_wash hR h0 a
    exact ⟨1, 0, 2, by decide, q⟩
  · have eJ : (fX5_judge A 5 a b d).1 = (fX5_judgeRead A a).1 := by
      unfold fX5_judge
      rw [if_neg (by decide), if_neg (by decide), if_neg (by decide), if_neg (by decide), if_neg (by decide), if_neg (by decide), if_neg (by decide), if_neg (by decide)]
    have eC : fX5_carryOut N 5 a b d = fX5_readByHost N a := by
      unfold fX5_carryOut
      rw [if_neg (by decide), if_neg (by decide), if_neg (by decide), if_neg (by decide), if_neg (by decide), if_neg (by decide), if_neg (by decide), if_neg (by decide)]
    have eD : fX9_does B k = fX9_hosts B a := by
      unfold fX9_does
      rw [t0, if_neg (by decide), if_neg (by decide), if_neg (by decide), if_neg (by decide), if_neg (by decide), if_pos (by decide), t1]
    rw [eJ, eC, eD]
    have q := op_read hR h0 a
    exact ⟨1, 0, 2, by decide, q⟩
  · have eJ : (fX5_judge A 6 a b d).1 = fX5_judgeLay A a b := by
      unfold fX5_judge
      rw [if_neg (by decide), if_neg (by decide), if_neg (by decide), if_pos (by decide)]
    have eC : fX5_carryOut N 6 a b d = fX6_addLast N a b := by
      unfold fX5_carryOut
      rw [if_neg (by decide), if_neg (by decide), if_neg (by decide), if_pos (by decide)]
    have eD : fX9_does B k = fX9_lays B a b := by
      unfold fX9_does
      rw [t0, if_neg (by decide), if_pos (by decide), t1, t2 (by decide)]
    rw [eJ, eC, eD]
    have q := op_lay hR h0 a b
    exact ⟨1, 0, 2, by decide, q⟩
  · have eJ : (fX5_judge A 7 a b d).1 = fX5_judgeMove A a b d := by
      unfold fX5_judge
      rw [if_neg (by decide), if_neg (by decide), if_neg (by decide), if_neg (by decide), if_neg (by decide), if_pos (by decide)]
    have eC : fX5_carryOut N 7 a b d = fX6_shift N a b d := by
      unfold fX5_carryOut
      rw [if_neg (by decide), if_neg (by decide), if_neg (by decide), if_neg (by decide), if_neg (by decide), if_pos (by decide)]
    have eD : fX9_does B k = fX9_moves B a b d := by
      unfold fX9_does
      rw [t0, if_neg (by decide), if_neg (by decide), if_pos (by decide), t1, t2 (by decide), t3 (by decide)]
    rw [eJ, eC, eD]
    have q := op_move hR h0 a b d
    exact ⟨1, 0, 2, by decide, q⟩
  · have eJ : (fX5_judge A 8 a b d).1 = fX5_judgeStain A a b := by
      unfold fX5_judge
      rw [if_neg (by decide), if_neg (by decide), if_neg (by decide), if_neg (by decide), if_neg (by decide), if_neg (by decide), if_pos (by decide)]
    have eC : fX5_carryOut N 8 a b d = fX6_addStains N a b := by
      unfold fX5_carryOut
      rw [if_neg (by decide), if_neg (by decide), if_neg (by decide), if_neg (by decide), if_neg (by decide), if_neg (by decide), if_pos (by decide)]
    have eD : fX9_does B k = fX9_stains B a b := by
      unfold fX9_does
      rw [t0, if_neg (by decide), if_neg (by decide), if_neg (by decide), if_neg (by decide), if_neg (by decide), if_neg (by decide), if_neg (by decide), if_neg (by decide), t1, t2 (by decide)]
    rw [eJ, eC, eD]
    have q := op_stain hR h0 a b
    exact ⟨1, 2, 3, by decide, q⟩
