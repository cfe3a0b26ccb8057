/-! A READ, second part: its orders carried out. -/
theorem mmCA : ∀ r ∈ ([8, 9, 10, 11, 12, 13, 14, 15, 16, 17, 18, 19] : List Nat), Nat.beq r 0 = false ∧ Nat.beq r 1 = false ∧ Nat.beq r 2 = false ∧ Nat.beq r 3 = false ∧ Nat.beq r 4 = false ∧ Nat.beq r 7 = false := by decide
theorem mmGB : ∀ r ∈ ([1, 2, 3, 4, 5, 6, 13, 15, 17, 18, 25, 27, 28] : List Nat), Nat.beq r 0 = false ∧ Nat.beq r 19 = false ∧ Nat.beq r 20 = false ∧ Nat.beq r 21 = false ∧ Nat.beq r 22 = false ∧ Nat.beq r 23 = false ∧ Nat.beq r 26 = false := by decide
theorem does_o (B : Mem) (k : Int) {r : Nat} (h : r ∈ ([1, 2, 3, 4, 5, 6, 13, 15, 17, 18, 25, 27, 28] : List Nat)) : (fX9_does B k).2 r = B r := by
  obtain ⟨a, b, c, d, e, f, g⟩ := mmGB r h
  exact fr_fX9_does k a b c d e f g
/-- what is the same before the text and behind it -/
def RdI (C G A B : Mem) : Prop := RW (A 0) (B 0) ∧ SI A ∧ (∀ r ∈ ([8, 9, 10, 11, 12, 13, 15, 16, 17, 18, 19] : List Nat), A r = C r) ∧ (∀ j : Int, 0 ≤ j → j < 80 → A 14 j = C 0 j) ∧
  (∀ r ∈ ([2, 3, 4, 5, 13, 15, 18, 19, 20, 21, 22, 23, 25] : List Nat), B r = G r) ∧ (∀ j : Int, 0 ≤ j → j < 82 → B 1 j = G 0 j) ∧ B 17 0 = 0 ∧ (0 ≤ B 27 0 ∧ B 27 0 ≤ 60) ∧ B 28 0 = 0 ∧ TL B
/-- the text is read: both forget it -/
theorem rd_text {C G A B : Mem} (hC : RT C G) (a10 : A 10 = C 10) (a11 : A 11 0 = 0) (b4 : B 4 = G 4) (b17 : B 17 0 = 0) (b27 : 0 ≤ B 27 0 ∧ B 27 0 ≤ 60) (b28 : 0 ≤ B 28 0 ∧ B 28 0 ≤ 1) (bT : TL B) : RT A B := by
  obtain ⟨t1, t2, -, -, -⟩ := hC
  refine ⟨⟨by rw [a11]; decide, fun j x y => by rw [a10]; exact t1.2 j x y⟩, ⟨by rw [b17]; decide, b27, b28, fun j x y => by rw [b4]; exact t2.2.2.2 j x y⟩, bT, by rw [a11, b17], fun j x y => by rw [b17] at y; omega⟩
theorem cl_10 (C : Mem) : fX7_empty C 11 0 = 0 := by unfold fX7_empty; exact msf_s
theorem emp_o {C : Mem} {r : Nat} (h : Nat.beq r 11 = false) : fX7_empty C r = C r := fr_fX7_empty h
theorem exe_0 {C G A B M0 : Mem} (hR : RelR C G) (h : RdI C G A B) (m : Int) : RelR (fX2_push (fX7_empty A)) (fX9_kept (fX9_done B m).2 (fX9_done B m).1).2 ∧ (fX9_kept (fX9_done B m).2 (fX9_done B m).1).2 26 0 = 0 ∧ (fX9_kept (fX9_done B m).2 (fX9_done B m).1).1 = m := by
  obtain ⟨hw, hs, cf, c14, gf, g1, g17, g27, g28, gT⟩ := h
  have m26 : (fX9_done B m).2 26 0 = 0 := by unfold fX9_done; dsimp only; exact msf_s
  have mo : ∀ r : Nat, Nat.beq r 26 = false → (fX9_done B m).2 r = B r := fun r h => msf_o h
  have m13 : (fX9_done B m).2 13 = G 13 := (mo 13 rfl).trans (gf 13 (by decide))
  obtain ⟨k1, k2, k3, k4⟩ := kept_ok (M := (fX9_done B m).2) m26 (by rw [m13]; exact ⟨hR.2.2.1.1.2.1, hR.2.2.1.1.2.2⟩) (fX9_done B m).1
  have pf : ∀ r : Nat, Nat.beq r 8 = false → Nat.beq r 9 = false → Nat.beq r 11 = false → fX2_push (fX7_empty A) r = A r := fun r a b c => by rw [fr_fX2_push a b, emp_o c]
  have hp : RH (fX2_push (fX7_empty A)) (fX9_kept (fX9_done B m).2 (fX9_done B m).1).2 := by
    refine hist_R (RH_of hR.2.2.1 ?_ ?_ ?_ m13) ?_ m26 _
    · rw [emp_o rfl]; exact cf 8 (by decide)
    · rw [emp_o rfl]; exact cf 9 (by decide)
    · rw [mo 2 rfl]; exact gf 2 (by decide)
    · refine RW_ext hR.1 (fun j x y => ?_) (fun j x y => ?_)
      · rw [emp_o rfl]; exact c14 j x y
      · rw [mo 1 rfl]; exact g1 j x y
  have kf : ∀ r ∈ ([3, 4, 5, 15, 18, 19, 20, 21, 22, 23, 25] : List Nat), (fX9_kept (fX9_done B m).2 (fX9_done B m).1).2 r = G r := fun r hr => by
    have q : ∀ r ∈ ([3, 4, 5, 15, 18, 19, 20, 21, 22, 23, 25] : List Nat), Nat.beq r 2 = false ∧ Nat.beq r 13 = false ∧ Nat.beq r 26 = false ∧ r ∈ ([2, 3, 4, 5, 13, 15, 18, 19, 20, 21, 22, 23, 25] : List Nat) := by decide
    obtain ⟨a, b, c, d⟩ := q r hr
    rw [k2 r a b, mo r c]
    exact gf r d
  have kb : ∀ r : Nat, Nat.beq r 2 = false → Nat.beq r 13 = false → Nat.beq r 26 = false → (fX9_kept (fX9_done B m).2 (fX9_done B m).1).2 r = B r := fun r a b c => by rw [k2 r a b, mo r c]
  obtain ⟨-, -, -, hN, hT, hL, hX⟩ := hR
  generalize fX9_kept (fX9_done B m).2 (fX9_done B m).1 = K at *
  refine ⟨⟨?_, SI_of (pf 1 rfl rfl rfl) (pf 2 rfl rfl rfl) (pf 3 rfl rfl rfl) (pf 4 rfl rfl rfl) (pf 7 rfl rfl rfl) hs, hp, RN_of hN ((pf 15 rfl rfl rfl).trans (cf 15 (by decide))) ((pf 16 rfl rfl rfl).trans (cf 16 (by decide))) (kf 3 (by decide)) (kf 15 (by decide)), ?_, RLn_of hL ((pf 12 rfl rfl rfl).trans (cf 12 (by decide))) ((pf 13 rfl rfl rfl).trans (cf 13 (by decide))) (kf 5 (by decide)) (kf 25 (by decide)), RX_of hX ((pf 17 rfl rfl rfl).trans (cf 17 (by decide))) ((pf 18 rfl rfl rfl).trans (cf 18 (by decide))) ((pf 19 rfl rfl rfl).trans (cf 19 (by decide))) (kf 18 (by decide)) (kf 19 (by decide)) (kf 20 (by decide)) (kf 21 (by decide)) (kf 22 (by decide)) (kf 23 (by decide))⟩, ?_, k1⟩
  · rw [pf 0 rfl rfl rfl, kb 0 rfl rfl rfl]
    exact hw
  · refine rd_text hT ((pf 10 rfl rfl rfl).trans (cf 10 (by decide))) ?_ (kf 4 (by decide)) ?_ ?_ ?_ ?_
    · rw [fr_fX2_push rfl rfl]; exact cl_10 A
    · rw [kb 17 rfl rfl rfl]; exact g17
    · rw [kb 27 rfl rfl rfl]; exact g27
    · rw [kb 28 rfl rfl rfl, g28]; decide
    · intro j x y
      rw [kb 6 rfl rfl rfl]
      exact gT j x y
  · rw [k2 26 rfl rfl]
    exact m26
/-- a command of the text was refused, or mistaken: all is as before -/
theorem exe_1 {C G A B J D : Mem} (hR : RelR C G) (h : RdI C G A B) (js : SI J) (jf : ∀ r ∈ ([8, 9, 10, 11, 12, 13, 14, 15, 16, 17, 18, 19] : List Nat), J r = A r) (df : ∀ r ∈ ([1, 2, 3, 4, 5, 6, 13, 15, 17, 18, 25, 27, 28] : List Nat), D r = B r) {i v : Int} (hi : 0 ≤ i ∧ i ≤ 15)
    (hD : (D 23 0 = 0 ∧ zmax v 0 = 0) ∨ (D 23 0 = 1 ∧ zmax v 0 = v ∧ v = 16 * D 19 0 + D 20 0 ∧ 1 ≤ D 19 0 ∧ D 19 0 ≤ 9 ∧ 0 ≤ D 20 0 ∧ D 20 0 ≤ 15)) :
    RelR (fX8_refuse (fX6_copyFrom_b (fX7_empty J)) (fX8_refusedFor 9 i) (zmax v 0)) (fX9_kept (fX9_refusesText D i).2 (fX9_refusesText D i).1).2 ∧ (fX9_kept (fX9_refusesText D i).2 (fX9_refusesText D i).1).2 26 0 = 2 := by
  obtain ⟨hw, hs, cf, c14, gf, g1, g17, g27, g28, gT⟩ := h
  have e : ∃ x y : Int, fX9_refusesText D i = (0, msf (msf (fX9_refused D 9 i 2).2 21 x) 22 y) ∧ zmax v 0 = 16 * x + y ∧ 0 ≤ x ∧ x ≤ 9 ∧ 0 ≤ y ∧ y ≤ 15 ∧ (x = 0 → y = 0) := by
    unfold fX9_refusesText
    rcases hD with ⟨d1, d2⟩ | ⟨d1, d2, d3, d4, d5, d6, d7⟩
    · rw [if_pos d1, if_pos d1]
      exact ⟨0, 0, rfl, by omega, by decide, by decide, by decide, by decide, by decide⟩
    · rw [if_neg (by omega), if_neg (by omega)]
      exact ⟨D 19 0, D 20 0, rfl, by omega, by omega, by omega, by omega, by omega, by omega⟩
  obtain ⟨x, y, e1, e2, e3, e4, e5, e6, e7⟩ := e
  have ro : ∀ r : Nat, Nat.beq r 19 = false → Nat.beq r 20 = false → Nat.beq r 21 = false → Nat.beq r 22 = false → Nat.beq r 23 = false → Nat.beq r 26 = false → (fX9_refusesText D i).2 r = D r := fun r a b c d f g => by
    rw [e1]
    dsimp only
    rw [msf_o d, msf_o c, fr_fX9_refused 9 i 2 a b c d f g]
  have r19 : (fX9_refusesText D i).2 19 0 = 9 := by rw [e1]; dsimp only; rw [msf_o (k := 22) (r := 19) rfl, msf_o (k := 21) (r := 19) rfl]; rfl
  have r20 : (fX9_refusesText D i).2 20 0 = i := by rw [e1]; dsimp only; rw [msf_o (k := 22) (r := 20) rfl, msf_o (k := 21) (r := 20) rfl]; rfl
  have r21 : (fX9_refusesText D i).2 21 0 = x := by rw [e1]; dsimp only; rw [msf_o (k := 22) (r := 21) rfl, msf_s]
  have r22 : (fX9_refusesText D i).2 22 0 = y := by rw [e1]; dsimp only; rw [msf_s]
  have r23 : (fX9_refusesText D i).2 23 0 = 1 := by rw [e1]; dsimp only; rw [msf_o (k := 22) (r := 23) rfl, msf_o (k := 21) (r := 23) rfl]; rfl
  have r26 : (fX9_refusesText D i).2 26 0 = 2 := by rw [e1]; dsimp only; rw [msf_o (k := 22) (r := 26) rfl, msf_o (k := 21) (r := 26) rfl]; rfl
  have k := kept_no (M := (fX9_refusesText D i).2) (by rw [r26]; decide) (fX9_refusesText D i).1
  rw [k.2]
  generalize (fX9_refusesText D i).2 = R at *
  have bo : ∀ r : Nat, Nat.beq r 0 = false → fX9_copy_bg R 0 0 r = R r := fun r a => fr_fX9_copy_bg _ _ a
  have rf : ∀ r ∈ ([2, 3, 4, 5, 13, 15, 18, 25] : List Nat), fX9_copy_bg R 0 0 r = G r := fun r hr => by
    have q : ∀ r ∈ ([2, 3, 4, 5, 13, 15, 18, 25] : List Nat), Nat.beq r 0 = false ∧ Nat.beq r 19 = false ∧ Nat.beq r 20 = false ∧ Nat.beq r 21 = false ∧ Nat.beq r 22 = false ∧ Nat.beq r 23 = false ∧ Nat.beq r 26 = false ∧ r ∈ ([1, 2, 3, 4, 5, 6, 13, 15, 17, 18, 25, 27, 28] : List Nat) ∧ r ∈ ([2, 3, 4, 5, 13, 15, 18, 19, 20, 21, 22, 23, 25] : List Nat) := by decide
    obtain ⟨a, b, c, d, f, g, h, m1, m2⟩ := q r hr
    rw [bo r a, ro r b c d f g h, df r m1]
    exact gf r m2
  have rb : ∀ r ∈ ([1, 6, 17, 27, 28] : List Nat), R r = B r := fun r hr => by
    have q : ∀ r ∈ ([1, 6, 17, 27, 28] : List Nat), Nat.beq r 19 = false ∧ Nat.beq r 20 = false ∧ Nat.beq r 21 = false ∧ Nat.beq r 22 = false ∧ Nat.beq r 23 = false ∧ Nat.beq r 26 = false ∧ r ∈ ([1, 2, 3, 4, 5, 6, 13, 15, 17, 18, 25, 27, 28] : List Nat) := by decide
    obtain ⟨b, c, d, f, g, h, m1⟩ := q r hr
    rw [ro r b c d f g h, df r m1]
  have co : ∀ r : Nat, Nat.beq r 18 = false → Nat.beq r 19 = false → fX8_refuse (fX6_copyFrom_b (fX7_empty J)) (fX8_refusedFor 9 i) (zmax v 0) r = fX6_copyFrom_b (fX7_empty J) r := fun r a b => fr_fX8_refuse _ _ a b
  have c18 : fX8_refuse (fX6_copyFrom_b (fX7_empty J)) (fX8_refusedFor 9 i) (zmax v 0) 18 0 = 9 * 16 + i := by unfold fX8_refuse; rw [msf_o (k := 19) (r := 18) rfl, msf_s]; rfl
  have c19 : fX8_refuse (fX6_copyFrom_b (fX7_empty J)) (fX8_refusedFor 9 i) (zmax v 0) 19 0 = zmax v 0 := by unfold fX8_refuse; rw [msf_s]
  generalize fX8_refuse (fX6_copyFrom_b (fX7_empty J)) (fX8_refusedFor 9 i) (zmax v 0) = P at *
  have pf : ∀ r : Nat, Nat.beq r 18 = false → Nat.beq r 19 = false → Nat.beq r 0 = false → Nat.beq r 11 = false → P r = J r := fun r a b c d => by rw [co r a b, fr_fX6_copyFrom_b c, emp_o d]
  have pc : ∀ r ∈ ([8, 9, 10, 12, 13, 15, 16, 17] : List Nat), P r = C r := fun r hr => by
    have q : ∀ r ∈ ([8, 9, 10, 12, 13, 15, 16, 17] : List Nat), Nat.beq r 18 = false ∧ Nat.beq r 19 = false ∧ Nat.beq r 0 = false ∧ Nat.beq r 11 = false ∧ r ∈ ([8, 9, 10, 11, 12, 13, 14, 15, 16, 17, 18, 19] : List Nat) ∧ r ∈ ([8, 9, 10, 11, 12, 13, 15, 16, 17, 18, 19] : List Nat) := by decide
    obtain ⟨a, b, c, d, m1, m2⟩ := q r hr
    rw [pf r a b c d, jf r m1]
    exact cf r m2
  obtain ⟨hw0, -, hh, hN, hT, hL, x1, x2, x3, x4⟩ := hR
  refine ⟨⟨RW_ext hw0 (fun j a b => ?_) (fun j a b => ?_), SI_of (pf 1 rfl rfl rfl rfl) (pf 2 rfl rfl rfl rfl) (pf 3 rfl rfl rfl rfl) (pf 4 rfl rfl rfl rfl) (pf 7 rfl rfl rfl rfl) js, RH_of hh (pc 8 (by decide)) (pc 9 (by decide)) (rf 2 (by decide)) (rf 13 (by decide)), RN_of hN (pc 15 (by decide)) (pc 16 (by decide)) (rf 3 (by decide)) (rf 15 (by decide)), ?_, RLn_of hL (pc 12 (by decide)) (pc 13 (by decide)) (rf 5 (by decide)) (rf 25 (by decide)), ?_⟩, by rw [bo 26 rfl]; exact r26⟩
  · rw [co 0 rfl rfl]
    show cpI (fX7_empty J 14) (fX7_empty J 0) 0 0 80 j = C 0 j
    unfold cpI
    rw [if_pos (by omega), emp_o rfl, jf 14 (by decide), show 0 + (j - 0) = j by omega]
    exact c14 j a b
  · rw [cp_bg, if_pos (by omega), show 0 + (j - 0) = j by omega, rb 1 (by decide)]
    exact g1 j a b
  · refine rd_text hT (pc 10 (by decide)) ?_ (rf 4 (by decide)) ?_ ?_ ?_ ?_
    · rw [co 11 rfl rfl, fr_fX6_copyFrom_b rfl]; exact cl_10 J
    · rw [bo 17 rfl, rb 17 (by decide)]; exact g17
    · rw [bo 27 rfl, rb 27 (by decide)]; exact g27
    · rw [bo 28 rfl, rb 28 (by decide), g28]; decide
    · intro j a b
      rw [bo 6 rfl, rb 6 (by decide)]
      exact gT j a b
  · unfold RX
    rw [pc 17 (by decide), rf 18 (by decide), c18, c19, bo 19 rfl, bo 20 rfl, bo 21 rfl, bo 22 rfl, bo 23 rfl, r19, r20, r21, r22, r23]
    exact ⟨x1, ⟨by omega, by decide, by decide, hi.1, hi.2, by omega⟩, ⟨e2, e3, e4, e5, e6, e7⟩, by decide, by decide⟩
theorem exe_L {C G M0 M1 : Mem} (hR : RelR C G) : ∀ (d : Nat) (k k' : Nat) (A B : Mem) (s i m more : Int), d < k → d < k' → i + d = m → 0 ≤ i → 6 * i ≤ s → RdI C G A B → Tld C (B 6) d s i →
    RelR (fX8_read_L1 M1 k A 0 i s (fX7_commandAt C s)).2.2 (fX9_read_L2 M0 m more k' B i).2 ∧ AnsL (fX8_read_L1 M1 k A 0 i s (fX7_commandAt C s)).1 [2, 3] ((fX9_read_L2 M0 m more k' B i).2 26 0) ∧ ((fX8_read_L1 M1 k A 0 i s (fX7_commandAt C s)).1 = 0 → (fX8_read_L1 M1 k A 0 i s (fX7_commandAt C s)).2.1 = (fX9_read_L2 M0 m more k' B i).1) := by
  intro d
  induction d with
  | zero =>
    intro k k' A B s i m more hk hk' hm h0 h6 hI hT
    cases k with
    | zero => exact absurd hk (Nat.lt_irrefl 0)
    | succ k =>
      cases k' with
      | zero => exact absurd hk' (Nat.lt_irrefl 0)
      | succ k' =>
        have hc : fX7_commandAt C s = -1 := hT
        rw [hc, fX8_read_L1, fX9_read_L2, if_pos (show (-1 : Int) < 0 by decide), if_pos rfl, if_pos (show m ≤ i by omega)]
        obtain ⟨p1, p2, p3⟩ := exe_0 (M0 := M0) hR hI m
        refine ⟨p1, ?_, fun _ => ?_⟩
        · show AnsL 0 _ _
          exact al_0 p2
        · show i = _
          rw [p3]
          omega
  | succ d ih =>
    intro k k' A B s i m more hk hk' hm h0 h6 hI hT
    cases k with
    | zero => omega
    | succ k =>
      cases k' with
      | zero => omega
      | succ k' =>
        obtain ⟨co, a1, a2, a3, a4, a5, a6, a7, a8, a9⟩ := hT
        have f := form_e ⟨a2, a3⟩
        have hI2 := hI
        obtain ⟨hw, hs, cf, c14, gf, g1, g17, g27, g28, gT⟩ := hI2
        have t10 : A 10 = C 10 := cf 10 (by decide)
        have t11 : A 11 = C 11 := cf 11 (by decide)
        rw [a1, fX8_read_L1, fX9_read_L2, if_neg (show ¬ co < 0 by omega), if_pos rfl, if_neg (show ¬ (60 : Int) ≤ i by omega), if_neg (show ¬ m ≤ i by omega)]
        rw [arg_c t10 t11, arg_c t10 t11, arg_c t10 t11]
        have jf : ∀ r ∈ ([8, 9, 10, 11, 12, 13, 14, 15, 16, 17, 18, 19] : List Nat), (fX5_judge A co (fX7_argument C co s 0) (fX7_argument C co s 1) (fX7_argument C co s 2)).2 r = A r := fun r hr => by
          obtain ⟨b0, b1, b2, b3, b4, b7⟩ := mmCA r hr
          exact fr_fX5_judge co _ _ _ b1 b2 b3 b4 b7
        have j0 : (fX5_judge A co (fX7_argument C co s 0) (fX7_argument C co s 1) (fX7_argument C co s 2)).2 0 = A 0 := judge_0 A co _ _ _
        have js := SI_judge (RW_C hw) hs co (fX7_argument C co s 0) (fX7_argument C co s 1) (fX7_argument C co s 2)
        obtain ⟨n1, n2, n3, hn3, hop⟩ := does_R (N := (fX5_judge A co (fX7_argument C co s 0) (fX7_argument C co s 1) (fX7_argument C co s 2)).2) hw j0 (co := co) (a := fX7_argument C co s 0) (b := fX7_argument C co s 1) (d := fX7_argument C co s 2) (k := 4 * i) ⟨a2, a3⟩ a5 a6 a7 a8
        have df : ∀ r ∈ ([1, 2, 3, 4, 5, 6, 13, 15, 17, 18, 25, 27, 28] : List Nat), (fX9_does B (4 * i)).2 r = B r := fun r hr => does_o B (4 * i) hr
        generalize (fX5_judge A co (fX7_argument C co s 0) (fX7_argument C co s 1) (fX7_argument C co s 2)).2 = J at *
        generalize (fX5_judge A co (fX7_argument C co s 0) (fX7_argument C co s 1) (fX7_argument C co s 2)).1 = v at *
        have cJ : fX7_commandAt J (s + (fX1_length co + 1)) = fX7_commandAt C (s + (fX1_length co + 1)) := cmd_c ((jf 10 (by decide)).trans t10) ((jf 11 (by decide)).trans t11) _
        -- a refusal
        have ref : ¬ v = 0 → ¬ (fX9_does B (4 * i)).2 26 0 = 0 → (((fX9_does B (4 * i)).2 23 0 = 0 ∧ zmax v 0 = 0) ∨ ((fX9_does B (4 * i)).2 23 0 = 1 ∧ zmax v 0 = v ∧ v = 16 * (fX9_does B (4 * i)).2 19 0 + (fX9_does B (4 * i)).2 20 0 ∧ 1 ≤ (fX9_does B (4 * i)).2 19 0 ∧ (fX9_does B (4 * i)).2 19 0 ≤ 9 ∧ 0 ≤ (fX9_does B (4 * i)).2 20 0 ∧ (fX9_does B (4 * i)).2 20 0 ≤ 15)) → ∀ (R : Int × Int × Mem) (Q : Int × Mem), R = fX8_read_L1 M1 k J v (i + 1) (s + (fX1_length co + 1)) (fX7_commandAt C (s + (fX1_length co + 1))) → Q = fX9_kept (fX9_refusesText (fX9_does B (4 * i)).2 i).2 (fX9_refusesText (fX9_does B (4 * i)).2 i).1 → RelR R.2.2 Q.2 ∧ AnsL R.1 [2, 3] (Q.2 26 0) ∧ (R.1 = 0 → R.2.1 = Q.1) := by
          intro hv h26 hD R Q hRr hQ
          have eR : R = (3, 0, fX8_refuse (fX6_copyFrom_b (fX7_empty J)) (fX8_refusedFor 9 i) (zmax v 0)) := by
            cases k with
            | zero => omega
            | succ k =>
              rw [hRr, fX8_read_L1, if_neg hv, if_neg hv, show i + 1 - 1 = i by omega]
              split <;> rfl
          obtain ⟨p1, p2⟩ := exe_1 (i := i) hR hI js jf df ⟨h0, by omega⟩ hD
          rw [eR, hQ]
          exact ⟨p1, al_2 p2, fun q => absurd (show (3 : Int) = 0 from q) (by decide)⟩
        rcases hop with ⟨e, hn, he⟩ | ⟨e, hn, he⟩ | ⟨e1, e2, he⟩ | ⟨e, X, he, hf, hr⟩
        · have w26 : (fX9_does B (4 * i)).2 26 0 = n1 := by rw [he]; rfl
          rw [if_neg (show ¬ v = 0 by omega), cJ, if_neg (by rw [w26]; exact hn)]
          exact ref (by omega) (by rw [w26]; exact hn) (Or.inl ⟨by rw [he]; rfl, by rw [e]; decide⟩) _ _ rfl rfl
        · have w26 : (fX9_does B (4 * i)).2 26 0 = n2 := by rw [he]; rfl
          rw [if_neg (show ¬ v = 0 by omega), cJ, if_neg (by rw [w26]; exact hn)]
          exact ref (by omega) (by rw [w26]; exact hn) (Or.inl ⟨by rw [he]; rfl, by rw [e]; decide⟩) _ _ rfl rfl
        · have w26 : (fX9_does B (4 * i)).2 26 0 = n3 := by rw [he]; rfl
          have w23 : (fX9_does B (4 * i)).2 23 0 = 1 := by rw [he]; rfl
          have w19 : (fX9_does B (4 * i)).2 19 0 = v / 16 := by rw [he]; rfl
          have w20 : (fX9_does B (4 * i)).2 20 0 = v % 16 := by rw [he]; rfl
          rw [if_neg (show ¬ v = 0 by omega), cJ, if_neg (by rw [w26]; exact hn3)]
          refine ref (by omega) (by rw [w26]; exact hn3) (Or.inr ⟨w23, ?_, ?_, ?_, ?_, ?_, ?_⟩) _ _ rfl rfl
          · unfold zmax; rw [if_neg (by omega)]
          · rw [w19, w20]; omega
          · rw [w19]; omega
          · rw [w19]; omega
          · rw [w20]; omega
          · rw [w20]; omega
        · -- done
          have w26 : (fX9_does B (4 * i)).2 26 0 = 0 := by rw [he]; rfl
          have w : ∀ r : Nat, Nat.beq r 0 = false → Nat.beq r 26 = false → (fX9_does B (4 * i)).2 r = B r := fun r x y => by
            rw [he]
            show msf X 26 0 r = _
            rw [msf_o y, hf r x]
          have w0 : (fX9_does B (4 * i)).2 0 = X 0 := by
            rw [he]
            show msf X 26 0 0 = _
            rw [msf_o (k := 26) (r := 0) rfl]
          have kf : ∀ r ∈ ([8, 9, 10, 11, 12, 13, 14, 15, 16, 17, 18, 19] : List Nat), (fX5_carryOut J co (fX7_argument C co s 0) (fX7_argument C co s 1) (fX7_argument C co s 2)).2 r = A r := fun r hr => by
            obtain ⟨b0, b1, b2, b3, b4, b7⟩ := mmCA r hr
            rw [fr_fX5_carryOut co _ _ _ b0 b1 b2 b3 b4 b7, jf r hr]
          have ks := SI_carryOut (CI_of0 j0 (RW_C hw)) js co (fX7_argument C co s 0) (fX7_argument C co s 1) (fX7_argument C co s 2)
          generalize fX5_carryOut J co (fX7_argument C co s 0) (fX7_argument C co s 1) (fX7_argument C co s 2) = K at *
          have cK : fX7_commandAt K.2 (s + (fX1_length co + 1)) = fX7_commandAt C (s + (fX1_length co + 1)) := cmd_c ((kf 10 (by decide)).trans t10) ((kf 11 (by decide)).trans t11) _
          rw [if_pos e, cK, if_pos w26, e]
          refine ih k k' K.2 (fX9_does B (4 * i)).2 (s + (fX1_length co + 1)) (i + 1) m more (by omega) (by omega) (by omega) (by omega) (by omega) ⟨by rw [w0]; exact hr, ks, fun r hr2 => ?_, fun j x y => ?_, fun r hr2 => ?_, fun j x y => ?_, ?_, ?_, ?_, ?_⟩ ?_
          · have q : ∀ r ∈ ([8, 9, 10, 11, 12, 13, 15, 16, 17, 18, 19] : List Nat), r ∈ ([8, 9, 10, 11, 12, 13, 14, 15, 16, 17, 18, 19] : List Nat) := by decide
            rw [kf r (q r hr2)]
            exact cf r hr2
          · rw [kf 14 (by decide)]; exact c14 j x y
          · have q : ∀ r ∈ ([2, 3, 4, 5, 13, 15, 18, 19, 20, 21, 22, 23, 25] : List Nat), Nat.beq r 0 = false ∧ Nat.beq r 26 = false := by decide
            rw [w r (q r hr2).1 (q r hr2).2]
            exact gf r hr2
          · rw [w 1 rfl rfl]; exact g1 j x y
          · rw [w 17 rfl rfl]; exact g17
          · rw [w 27 rfl rfl]; exact g27
          · rw [w 28 rfl rfl]; exact g28
          · intro j x y
            rw [w 6 rfl rfl]
            exact gT j x y
          · rw [w 6 rfl rfl]
            exact a9
theorem s_read {C G : Mem} (h : RelR C G) : Same (fX8_read C) (fX9_read G) [2, 3] := by
  have hR := h
  obtain ⟨hw, hs, hh, hN, ⟨t1, t2, t3, t4, t5⟩, hL, x1, x2, x3, x4⟩ := h
  have tx : TX C G := ⟨t4, RI_17 t2, t5, fun j a b => t2.2.2.2 j a (by have := RI_17 t2; omega)⟩
  have n17 := RI_17 t2
  have i0 : RI (msf (msf G 27 0) 28 0) := RI_28s (RI_27s t2 (by decide)) (by decide)
  have f0 : ∀ r ∈ ([0, 1, 2, 3, 4, 5, 13, 15, 17, 18, 19, 20, 21, 22, 23, 25, 26] : List Nat), msf (msf G 27 0) 28 0 r = G r := fun r hr => by
    obtain ⟨a, b, c⟩ := mm67 r hr
    rw [msf_o c, msf_o b]
  have q27 : msf (msf G 27 0) 28 0 27 0 = 0 := by rw [msf_o (k := 28) (r := 27) rfl, msf_s]
  have p := par_L (M0 := G) tx 63 62 (msf (msf G 27 0) 28 0) 0 f0 i0 (fun j a b => t3 j a b) msf_s (by decide) (by rw [q27]; decide) (by rw [q27]; exact n17.1) (by rw [q27]; decide) (by rw [q27]; decide)
  rw [q27] at p
  have eM : fX9_read G = fX9_read_L1 G 63 (msf (msf G 27 0) 28 0) 0 1 := rfl
  have eC : fX7_errorAt C = fX7_errorAt_L1 C 62 0 0 := rfl
  unfold fX8_read
  rw [eM, eC]
  rcases p with ⟨e, My, p1, p2, p3, p4, p5, p6, p7⟩ | ⟨d, My, p1, p2, p3, p4, p5, p6, p7, p8⟩
  · rw [p3, p4, if_neg (show ¬ e = -1 by omega)]
    have n27 := RI_27 p5
    have gf : ∀ r ∈ ([0, 2, 3, 4, 5, 13, 15, 19, 20, 21, 22, 25] : List Nat), (fX9_fails (msf (msf (msf My 28 1) 17 0) 18 e) 1).2 r = G r := fun r hr => by
      have q : ∀ r ∈ ([0, 2, 3, 4, 5, 13, 15, 19, 20, 21, 22, 25] : List Nat), Nat.beq r 23 = false ∧ Nat.beq r 26 = false ∧ Nat.beq r 18 = false ∧ Nat.beq r 17 = false ∧ Nat.beq r 28 = false ∧ r ∈ ([0, 1, 2, 3, 4, 5, 13, 15, 17, 18, 19, 20, 21, 22, 23, 25, 26] : List Nat) := by decide
      obtain ⟨a, b, c, d, f, m⟩ := q r hr
      rw [fr_fX9_fails 1 a b, msf_o c, msf_o d, msf_o f]
      exact p7 r m
    have go : ∀ r : Nat, Nat.beq r 23 = false → Nat.beq r 26 = false → (fX9_fails (msf (msf (msf My 28 1) 17 0) 18 e) 1).2 r = msf (msf (msf My 28 1) 17 0) 18 e r := fun r a b => fr_fX9_fails 1 a b
    have g23 : (fX9_fails (msf (msf (msf My 28 1) 17 0) 18 e) 1).2 23 0 = 0 := by unfold fX9_fails; dsimp only; exact msf_s
    have g26 : (fX9_fails (msf (msf (msf My 28 1) 17 0) 18 e) 1).2 26 0 = 1 := by
      unfold fX9_fails
      dsimp only
      rw [msf_o (k := 23) (r := 26) rfl, msf_s]
    have cf : ∀ r : Nat, Nat.beq r 17 = false → Nat.beq r 11 = false → msf (fX7_empty C) 17 e r = C r := fun r a b => by rw [msf_o a, emp_o b]
    generalize fX9_fails (msf (msf (msf My 28 1) 17 0) 18 e) 1 = F at *
    refine ⟨⟨?_, SI_of (cf 1 rfl rfl) (cf 2 rfl rfl) (cf 3 rfl rfl) (cf 4 rfl rfl) (cf 7 rfl rfl) hs, RH_of hh (cf 8 rfl rfl) (cf 9 rfl rfl) (gf 2 (by decide)) (gf 13 (by decide)), RN_of hN (cf 15 rfl rfl) (cf 16 rfl rfl) (gf 3 (by decide)) (gf 15 (by decide)), ?_, RLn_of hL (cf 12 rfl rfl) (cf 13 rfl rfl) (gf 5 (by decide)) (gf 25 (by decide)), ?_⟩, ?_, fun q => absurd (show (2 : Int) = 0 from q) (by decide)⟩
    · dsimp only
      rw [cf 0 rfl rfl, gf 0 (by decide)]
      exact hw
    · refine rd_text ⟨t1, t2, t3, t4, t5⟩ (cf 10 rfl rfl) ?_ (gf 4 (by decide)) ?_ ?_ ?_ ?_
      · dsimp only
        rw [msf_o (k := 17) (r := 11) rfl]
        exact cl_10 C
      · rw [go 17 rfl rfl, msf_o (k := 18) (r := 17) rfl, msf_s]
      · rw [go 27 rfl rfl, msf_o (k := 18) (r := 27) rfl, msf_o (k := 17) (r := 27) rfl, msf_o (k := 28) (r := 27) rfl]
        exact n27
      · rw [go 28 rfl rfl, msf_o (k := 18) (r := 28) rfl, msf_o (k := 17) (r := 28) rfl, msf_s]
        decide
      · intro j a b
        rw [go 6 rfl rfl, msf_o (k := 18) (r := 6) rfl, msf_o (k := 17) (r := 6) rfl, msf_o (k := 28) (r := 6) rfl]
        exact p6 j a b
    · unfold RX
      dsimp only
      rw [msf_s, msf_o (k := 17) (r := 18) rfl, msf_o (k := 17) (r := 19) rfl, emp_o rfl, emp_o rfl, go 18 rfl rfl, msf_s, gf 19 (by decide), gf 20 (by decide), gf 21 (by decide), gf 22 (by decide), g23]
      exact ⟨⟨rfl, by omega, by omega⟩, x2, x3, by decide, by decide⟩
    · rw [g26]
      exact al_1 rfl
  · rw [p1, p2, if_pos rfl]
    have cb : ∀ r : Nat, Nat.beq r 14 = false → fX6_copyTo_b C r = C r := fun r a => fr_fX6_copyTo_b a
    have ec : fX7_commandAt (fX6_copyTo_b C) 0 = fX7_commandAt C 0 := cmd_c (cb 10 rfl) (cb 11 rfl) 0
    have n27 := RI_27 p3
    have lf : ∀ r ∈ ([0, 2, 3, 4, 5, 6, 13, 15, 18, 19, 20, 21, 22, 23, 25, 27] : List Nat), fX9_looksBack (msf (msf My 28 0) 17 0) r = My r := fun r hr => by
      have q : ∀ r ∈ ([0, 2, 3, 4, 5, 6, 13, 15, 18, 19, 20, 21, 22, 23, 25, 27] : List Nat), Nat.beq r 1 = false ∧ Nat.beq r 17 = false ∧ Nat.beq r 28 = false := by decide
      obtain ⟨a, b, c⟩ := q r hr
      rw [lb_o _ a, msf_o b, msf_o c]
    rw [ec]
    have q := exe_L (M0 := G) (M1 := C) hR d 62 33 (fX6_copyTo_b C) (fX9_looksBack (msf (msf My 28 0) 17 0)) 0 0 (0 + (d : Int)) 0 (by omega) (by omega) (by omega) (by decide) (by decide) ⟨?_, SI_of (cb 1 rfl) (cb 2 rfl) (cb 3 rfl) (cb 4 rfl) (cb 7 rfl) hs, fun r hr => cb r ?_, fun j a b => ?_, fun r hr => ?_, fun j a b => ?_, ?_, ?_, ?_, ?_⟩ ?_
    · exact q
    · rw [cb 0 rfl, lf 0 (by decide), p5 0 (by decide)]
      exact hw
    · revert r; decide
    · show cpI (C 0) (C 14) 0 0 80 j = C 0 j
      unfold cpI
      rw [if_pos (by omega), show 0 + (j - 0) = j by omega]
    · have q : ∀ r ∈ ([2, 3, 4, 5, 13, 15, 18, 19, 20, 21, 22, 23, 25] : List Nat), r ∈ ([0, 2, 3, 4, 5, 6, 13, 15, 18, 19, 20, 21, 22, 23, 25, 27] : List Nat) ∧ r ∈ ([0, 1, 2, 3, 4, 5, 13, 15, 17, 18, 19, 20, 21, 22, 23, 25, 26] : List Nat) := by decide
      rw [lf r (q r hr).1]
      exact p5 r (q r hr).2
    · rw [lb_1 _ ⟨a, b⟩, msf_o (k := 17) (r := 0) rfl, msf_o (k := 28) (r := 0) rfl, p5 0 (by decide)]
    · rw [lb_o _ rfl, msf_s]
    · rw [lf 27 (by decide)]
      exact n27
    · rw [lb_o _ rfl, msf_o (k := 17) (r := 28) rfl, msf_s]
    · intro j a b
      rw [lf 6 (by decide)]
      exact p4 j a b
    · rw [lf 6 (by decide)]
      exact p6
