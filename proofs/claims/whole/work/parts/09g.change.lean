/-! A CHANGE, done whole or refused, alike. -/
def AnsK (k n1 n2 n3 : Int) (G' : Mem) : Prop := (k = 0 ∧ G' 26 0 = 0) ∨ (k = 1 ∧ ¬ n1 = 0 ∧ G' 26 0 = n1) ∨ (k = 2 ∧ ¬ n2 = 0 ∧ G' 26 0 = n2) ∨ (k = 3 ∧ G' 26 0 = n3)
theorem mmC : ∀ r ∈ ([8, 9, 10, 11, 12, 13, 15, 16, 17, 18, 19] : List Nat), Nat.beq r 0 = false ∧ Nat.beq r 1 = false ∧ Nat.beq r 2 = false ∧ Nat.beq r 3 = false ∧ Nat.beq r 4 = false ∧ Nat.beq r 7 = false ∧ Nat.beq r 14 = false := by decide
theorem mmG : ∀ r ∈ ([2, 3, 4, 5, 6, 13, 15, 17, 18, 19, 20, 21, 22, 25, 27, 28] : List Nat), Nat.beq r 0 = false ∧ Nat.beq r 1 = false ∧ Nat.beq r 23 = false ∧ Nat.beq r 26 = false := by decide
/-- all but the row and the refusals -/
theorem RelR_of {C G C' G' : Mem} (h : RelR C G) (hw : RW (C' 0) (G' 0)) (hs : SI C') (hh : RH C' G') (cf : ∀ r ∈ ([10, 11, 12, 13, 15, 16] : List Nat), C' r = C r) (gf : ∀ r ∈ ([3, 4, 5, 6, 15, 17, 25, 27, 28] : List Nat), G' r = G r) (hx : RX C' G') : RelR C' G' := by
  obtain ⟨-, -, -, a, b, c, -⟩ := h
  exact ⟨hw, hs, hh, RN_of a (cf 15 (by decide)) (cf 16 (by decide)) (gf 3 (by decide)) (gf 15 (by decide)), RT_of b (cf 10 (by decide)) (cf 11 (by decide)) (gf 4 (by decide)) (gf 6 (by decide)) (gf 17 (by decide)) (gf 27 (by decide)) (gf 28 (by decide)), RLn_of c (cf 12 (by decide)) (cf 13 (by decide)) (gf 5 (by decide)) (gf 25 (by decide)), hx⟩
theorem lb_0 (G : Mem) : fX9_looksBack G 0 = G 0 := fr_fX9_looksBack rfl
theorem lb_1 (G : Mem) {z : Int} (h : 0 ≤ z ∧ z < 82) : fX9_looksBack G 1 z = G 0 z := by
  unfold fX9_looksBack
  rw [cp_gb, if_pos (by omega), show 0 + (z - 0) = z by omega]
theorem lb_o (G : Mem) {r : Nat} (h : Nat.beq r 1 = false) : fX9_looksBack G r = G r := fr_fX9_looksBack h
/-- what a failed change leaves -/
theorem back_R {C G B : Mem} (hw : RW (C 0) (G 0)) (h1 : B 1 = fX9_looksBack G 1) : RW (C 0) (fX9_copy_bg B 0 0 0) := RW_ext hw (fun _ _ _ => rfl) (fun j a b => by rw [cp_bg, if_pos (by omega), show 0 + (j - 0) = j by omega, h1, lb_1 G ⟨a, b⟩])
theorem change_R {C G : Mem} (h : RelR C G) {co a b d n1 n2 n3 : Int} (hn3 : ¬ n3 = 0) (mr : Int × Mem) (hop : ∀ N : Mem, N 0 = C 0 → OpR (fX5_judge C co a b d).1 (fX5_carryOut N co a b d) (fX9_looksBack G) mr n1 n2 n3) :
    RelR (fX8_change C co a b d).2.2 (fX9_kept mr.2 mr.1).2 ∧ AnsK (fX8_change C co a b d).1 n1 n2 n3 (fX9_kept mr.2 mr.1).2 ∧ ((fX8_change C co a b d).1 = 0 → (fX8_change C co a b d).2.1 = (fX9_kept mr.2 mr.1).1) := by
  have hR := h
  obtain ⟨hw, hs, hh, hN, hT, hL, hx⟩ := h
  have hC := RW_C hw
  have jf : ∀ r : Nat, Nat.beq r 1 = false → Nat.beq r 2 = false → Nat.beq r 3 = false → Nat.beq r 4 = false → Nat.beq r 7 = false → (fX5_judge C co a b d).2 r = C r := fun r a1 a2 a3 a4 a7 => fr_fX5_judge co a b d a1 a2 a3 a4 a7
  have js := SI_judge hC hs co a b d
  have c0 := jf 0 rfl rfl rfl rfl rfl
  unfold fX8_change
  generalize (fX5_judge C co a b d).2 = C1 at jf js c0 ⊢
  generalize (fX5_judge C co a b d).1 = v at hop ⊢
  have C1f : ∀ r ∈ ([8, 9, 10, 11, 12, 13, 15, 16, 17, 18, 19] : List Nat), C1 r = C r := fun r hr => by
    obtain ⟨-, a1, a2, a3, a4, a7, -⟩ := mmC r hr
    exact jf r a1 a2 a3 a4 a7
  obtain ⟨x1, x2, x3, x4⟩ := hx
  -- a mistaken argument
  have fail : ∀ n : Int, ¬ n = 0 → mr = fX9_fails (fX9_looksBack G) n → RelR C1 (fX9_kept mr.2 mr.1).2 ∧ (fX9_kept mr.2 mr.1).2 26 0 = n := by
    intro n hn he
    have k := kept_no (M := mr.2) (by rw [he]; exact hn) mr.1
    rw [k.2, he]
    have gf : ∀ r ∈ ([2, 3, 4, 5, 6, 13, 15, 17, 18, 19, 20, 21, 22, 25, 27, 28] : List Nat), fX9_copy_bg (fX9_fails (fX9_looksBack G) n).2 0 0 r = G r := fun r hr => by
      obtain ⟨g0, g1, g2, g3⟩ := mmG r hr
      rw [fr_fX9_copy_bg _ _ g0]
      show msf (msf (fX9_looksBack G) 26 n) 23 0 r = G r
      rw [msf_o g2, msf_o g3, lb_o G g1]
    have g23 : fX9_copy_bg (fX9_fails (fX9_looksBack G) n).2 0 0 23 0 = 0 := by rw [fr_fX9_copy_bg _ _ rfl]; rfl
    have g26 : fX9_copy_bg (fX9_fails (fX9_looksBack G) n).2 0 0 26 0 = n := by rw [fr_fX9_copy_bg _ _ rfl]; rfl
    refine ⟨RelR_of hR (by rw [c0]; exact back_R (B := (fX9_fails (fX9_looksBack G) n).2) hw (fr_fX9_fails _ rfl rfl)) js (RH_of hh (C1f 8 (by decide)) (C1f 9 (by decide)) (gf 2 (by decide)) (gf 13 (by decide))) (fun r hr => C1f r ?_) (fun r hr => gf r ?_) ?_, g26⟩
    · revert r; decide
    · revert r; decide
    · unfold RX
      rw [C1f 17 (by decide), C1f 18 (by decide), C1f 19 (by decide), gf 18 (by decide), gf 19 (by decide), gf 20 (by decide), gf 21 (by decide), gf 22 (by decide), g23]
      exact ⟨x1, x2, x3, by decide, by decide⟩
  rcases hop (fX2_push (fX6_copyTo_b C1)) (by rw [fr_fX2_push rfl rfl, fr_fX6_copyTo_b rfl]; exact c0) with ⟨e, hn, he⟩ | ⟨e, hn, he⟩ | ⟨e1, e2, he⟩ | ⟨e, X, he, hf, hr⟩
  · obtain ⟨f1, f2⟩ := fail n1 hn he
    rw [if_pos e]
    exact ⟨f1, Or.inr (Or.inl ⟨rfl, hn, f2⟩), fun q => absurd (show (1 : Int) = 0 from q) (by decide)⟩
  · obtain ⟨f1, f2⟩ := fail n2 hn he
    rw [if_neg (by omega), if_pos e]
    exact ⟨f1, Or.inr (Or.inr (Or.inl ⟨rfl, hn, f2⟩)), fun q => absurd (show (2 : Int) = 0 from q) (by decide)⟩
  · -- refused
    rw [if_neg (by omega), if_neg (by omega), if_neg (by omega)]
    have k := kept_no (M := mr.2) (by rw [he]; exact hn3) mr.1
    rw [k.2, he]
    dsimp only
    have gf : ∀ r ∈ ([2, 3, 4, 5, 6, 13, 15, 17, 18, 25, 27, 28] : List Nat), fX9_copy_bg (fX9_refused (fX9_looksBack G) (v / 16) (v % 16) n3).2 0 0 r = G r := fun r hr => by
      have m : ∀ r ∈ ([2, 3, 4, 5, 6, 13, 15, 17, 18, 25, 27, 28] : List Nat), Nat.beq r 0 = false ∧ Nat.beq r 1 = false ∧ Nat.beq r 19 = false ∧ Nat.beq r 20 = false ∧ Nat.beq r 21 = false ∧ Nat.beq r 22 = false ∧ Nat.beq r 26 = false ∧ Nat.beq r 23 = false := by decide
      obtain ⟨g0, g1, g2, g3, g4, g5, g6, g7⟩ := m r hr
      rw [fr_fX9_copy_bg _ _ g0]
      show msf (msf (msf (msf (msf (msf (fX9_looksBack G) 19 (v / 16)) 20 (v % 16)) 21 0) 22 0) 26 n3) 23 1 r = G r
      rw [msf_o g7, msf_o g6, msf_o g5, msf_o g4, msf_o g3, msf_o g2, lb_o G g1]
    have go : ∀ r : Nat, Nat.beq r 0 = false → fX9_copy_bg (fX9_refused (fX9_looksBack G) (v / 16) (v % 16) n3).2 0 0 r = (fX9_refused (fX9_looksBack G) (v / 16) (v % 16) n3).2 r := fun r hr => fr_fX9_copy_bg _ _ hr
    have cf : ∀ r ∈ ([0, 8, 9, 10, 11, 12, 13, 15, 16, 17, 1, 2, 3, 4, 7] : List Nat), fX8_refuse C1 v 0 r = C1 r := fun r hr => by
      have m : ∀ r ∈ ([0, 8, 9, 10, 11, 12, 13, 15, 16, 17, 1, 2, 3, 4, 7] : List Nat), Nat.beq r 18 = false ∧ Nat.beq r 19 = false := by decide
      obtain ⟨m1, m2⟩ := m r hr
      unfold fX8_refuse
      rw [msf_o m2, msf_o m1]
    refine ⟨RelR_of hR (by rw [cf 0 (by decide), c0]; exact back_R (B := (fX9_refused (fX9_looksBack G) (v / 16) (v % 16) n3).2) hw (fr_fX9_refused _ _ _ rfl rfl rfl rfl rfl rfl)) (SI_of (cf 1 (by decide)) (cf 2 (by decide)) (cf 3 (by decide)) (cf 4 (by decide)) (cf 7 (by decide)) js) (RH_of hh ((cf 8 (by decide)).trans (C1f 8 (by decide))) ((cf 9 (by decide)).trans (C1f 9 (by decide))) (gf 2 (by decide)) (gf 13 (by decide))) (fun r hr => (cf r ?_).trans (C1f r ?_)) (fun r hr => gf r ?_) ?_, Or.inr (Or.inr (Or.inr ⟨rfl, ?_⟩)), fun q => absurd q (by decide)⟩
    · revert r; decide
    · revert r; decide
    · revert r; decide
    · unfold RX
      rw [cf 17 (by decide), C1f 17 (by decide), gf 18 (by decide), go 19 rfl, go 20 rfl, go 21 rfl, go 22 rfl, go 23 rfl]
      exact ⟨x1, ⟨(show v = 16 * (v / 16) + v % 16 by omega), (show 0 ≤ v / 16 by omega), (show v / 16 ≤ 9 by omega), (show 0 ≤ v % 16 by omega), (show v % 16 ≤ 15 by omega), (show v / 16 = 0 → v % 16 = 0 by omega)⟩, ⟨rfl, (show (0 : Int) ≤ 0 by decide), (show (0 : Int) ≤ 9 by decide), (show (0 : Int) ≤ 0 by decide), (show (0 : Int) ≤ 15 by decide), fun _ => rfl⟩, (show (0 : Int) ≤ 1 by decide), (show (1 : Int) ≤ 1 by decide)⟩
    · rw [go 26 rfl]
      rfl
  · -- done
    rw [if_neg (by omega), if_neg (by omega), if_pos e]
    have m26 : mr.2 26 0 = 0 := by rw [he]; rfl
    have mo : ∀ r : Nat, Nat.beq r 0 = false → Nat.beq r 26 = false → mr.2 r = fX9_looksBack G r := fun r h0 h26 => by
      rw [he]
      show msf X 26 0 r = _
      rw [msf_o h26, hf r h0]
    have m13 : mr.2 13 = G 13 := by rw [mo 13 rfl rfl, lb_o G rfl]
    obtain ⟨k1, k2, k3, k4⟩ := kept_ok (M := mr.2) m26 (by rw [m13]; exact ⟨hh.1.2.1, hh.1.2.2⟩) mr.1
    have cf : ∀ r : Nat, Nat.beq r 0 = false → Nat.beq r 1 = false → Nat.beq r 2 = false → Nat.beq r 3 = false → Nat.beq r 4 = false → Nat.beq r 7 = false → (fX5_carryOut (fX2_push (fX6_copyTo_b C1)) co a b d).2 r = fX2_push (fX6_copyTo_b C1) r := fun r h0 h1 h2 h3 h4 h7 => fr_fX5_carryOut co a b d h0 h1 h2 h3 h4 h7
    have pf : ∀ r : Nat, Nat.beq r 8 = false → Nat.beq r 9 = false → Nat.beq r 14 = false → fX2_push (fX6_copyTo_b C1) r = C1 r := fun r h8 h9 h14 => by rw [fr_fX2_push h8 h9, fr_fX6_copyTo_b h14]
    have hp : RH (fX2_push (fX6_copyTo_b C1)) (fX9_kept mr.2 mr.1).2 := by
      refine hist_R (RH_of hh ?_ ?_ ?_ m13) ?_ m26 mr.1
      · rw [fr_fX6_copyTo_b rfl]; exact C1f 8 (by decide)
      · rw [fr_fX6_copyTo_b rfl]; exact C1f 9 (by decide)
      · rw [mo 2 rfl rfl, lb_o G rfl]
      · refine RW_ext hw (fun j x y => ?_) (fun j x y => ?_)
        · show cpI (C1 0) (C1 14) 0 0 80 j = C 0 j
          unfold cpI
          rw [if_pos (by omega), c0, show 0 + (j - 0) = j by omega]
        · rw [mo 1 rfl rfl, lb_1 G ⟨x, y⟩]
    have gf : ∀ r ∈ ([3, 4, 5, 6, 15, 17, 18, 19, 20, 21, 22, 23, 25, 27, 28] : List Nat), (fX9_kept mr.2 mr.1).2 r = G r := fun r hr => by
      have m : ∀ r ∈ ([3, 4, 5, 6, 15, 17, 18, 19, 20, 21, 22, 23, 25, 27, 28] : List Nat), Nat.beq r 2 = false ∧ Nat.beq r 13 = false ∧ Nat.beq r 0 = false ∧ Nat.beq r 26 = false ∧ Nat.beq r 1 = false := by decide
      obtain ⟨g1, g2, g3, g4, g5⟩ := m r hr
      rw [k2 r g1 g2, mo r g3 g4, lb_o G g5]
    have cl : ∀ r ∈ ([10, 11, 12, 13, 15, 16, 17, 18, 19] : List Nat), (fX5_carryOut (fX2_push (fX6_copyTo_b C1)) co a b d).2 r = C r := fun r hr => by
      have m : ∀ r ∈ ([10, 11, 12, 13, 15, 16, 17, 18, 19] : List Nat), r ∈ ([8, 9, 10, 11, 12, 13, 15, 16, 17, 18, 19] : List Nat) ∧ Nat.beq r 8 = false ∧ Nat.beq r 9 = false := by decide
      obtain ⟨m0, m8, m9⟩ := m r hr
      obtain ⟨a0, a1, a2, a3, a4, a7, a14⟩ := mmC r m0
      rw [cf r a0 a1 a2 a3 a4 a7, pf r m8 m9 a14, C1f r m0]
    have sN : SI (fX2_push (fX6_copyTo_b C1)) := SI_of (pf 1 rfl rfl rfl) (pf 2 rfl rfl rfl) (pf 3 rfl rfl rfl) (pf 4 rfl rfl rfl) (pf 7 rfl rfl rfl) js
    have cN : CI (fX2_push (fX6_copyTo_b C1)) := CI_of0 ((pf 0 rfl rfl rfl).trans c0) hC
    refine ⟨RelR_of hR ?_ (SI_carryOut cN sN co a b d) (RH_of hp (cf 8 rfl rfl rfl rfl rfl rfl) (cf 9 rfl rfl rfl rfl rfl rfl) rfl rfl) (fun r hr => cl r ?_) (fun r hr => gf r ?_) (RX_of ⟨x1, x2, x3, x4⟩ (cl 17 (by decide)) (cl 18 (by decide)) (cl 19 (by decide)) (gf 18 (by decide)) (gf 19 (by decide)) (gf 20 (by decide)) (gf 21 (by decide)) (gf 22 (by decide)) (gf 23 (by decide))), Or.inl ⟨rfl, ?_⟩, fun _ => ?_⟩
    · rw [k2 0 rfl rfl, he]
      exact hr
    · revert r; decide
    · revert r; decide
    · rw [k2 26 rfl rfl]
      exact m26
    · rw [k1, he]
      rfl
