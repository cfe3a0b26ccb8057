/-! HISTORY, SNAPSHOT: rows copied alike. -/
theorem RW_ext {c g c' g' : Int → Int} (h : RW c g) (hc : ∀ j : Int, 0 ≤ j → j < 80 → c' j = c j) (hg : ∀ j : Int, 0 ≤ j → j < 82 → g' j = g j) : RW c' g' := by
  obtain ⟨a, b, s⟩ := h
  have l6 : ∀ u : Int, 0 ≤ u → u < 3 → 0 ≤ g (55 + u) ∧ g (55 + u) ≤ 6 := fun u x y => b.2.2.2.2.2.1 (55 + u) (by omega) (by omega)
  have n := SR_n s
  have m := SR_m s
  refine ⟨⟨fun j x y => ?_, fun j x y => ?_, fun j x y => ?_, fun j x y => ?_, fun j x y => ?_, fun j x y => ?_, ?_⟩, ⟨?_, fun j x y => ?_, fun j x y => ?_, fun j x y => ?_, fun j x y => ?_, fun j x y => ?_, fun j x y => ?_⟩, ?_, fun j x y => ?_, fun j x y => ?_, fun t x y => ?_, fun t p x y z w => ?_, fun t p u q x y z w x' y' z' w' f => ?_, ?_⟩
  · show 0 ≤ c' j ∧ c' j ≤ 3; rw [hc j (by omega) (by omega)]; exact a.1 j x y
  · show 0 ≤ c' j ∧ c' j ≤ 4; rw [hc j (by omega) (by omega)]; exact a.2.1 j x y
  · show 0 ≤ c' j ∧ c' j ≤ 12; rw [hc j (by omega) (by omega)]; exact a.2.2.1 j x y
  · show 0 ≤ c' j ∧ c' j ≤ 9; rw [hc j (by omega) (by omega)]; exact a.2.2.2.1 j x y
  · show 0 ≤ c' j ∧ c' j ≤ 9; rw [hc j (by omega) (by omega)]; exact a.2.2.2.2.1 j x y
  · show 0 ≤ c' j ∧ c' j ≤ 6; rw [hc j (by omega) (by omega)]; exact a.2.2.2.2.2.1 j x y
  · show 0 ≤ c' 77 ∧ c' 77 ≤ 10; rw [hc 77 (by decide) (by decide)]; exact a.2.2.2.2.2.2
  · show 0 ≤ g' 0 ∧ g' 0 ≤ 10; rw [hg 0 (by decide) (by decide)]; exact b.1
  · show 0 ≤ g' j ∧ g' j ≤ 3; rw [hg j (by omega) (by omega)]; exact b.2.1 j x y
  · show 0 ≤ g' j ∧ g' j ≤ 4; rw [hg j (by omega) (by omega)]; exact b.2.2.1 j x y
  · show 0 ≤ g' j ∧ g' j ≤ 12; rw [hg j (by omega) (by omega)]; exact b.2.2.2.1 j x y
  · show 0 ≤ g' j ∧ g' j ≤ 9; rw [hg j (by omega) (by omega)]; exact b.2.2.2.2.1 j x y
  · show 0 ≤ g' j ∧ g' j ≤ 6; rw [hg j (by omega) (by omega)]; exact b.2.2.2.2.2.1 j x y
  · show 0 ≤ g' j ∧ g' j ≤ 9; rw [hg j (by omega) (by omega)]; exact b.2.2.2.2.2.2 j x y
  · rw [hc 77 (by decide) (by decide), hg 0 (by decide) (by decide)]; exact n
  · rw [hc j (by omega) (by omega), hc (10 + j) (by omega) (by omega), hc (20 + j) (by omega) (by omega), hc (30 + j) (by omega) (by omega), hc (40 + j) (by omega) (by omega), hg (5 + j) (by omega) (by omega), hg (15 + j) (by omega) (by omega), hg (25 + j) (by omega) (by omega), hg (35 + j) (by omega) (by omega), hg (45 + j) (by omega) (by omega)]
    exact SR_j s j x y
  · rw [hg 0 (by decide) (by decide)] at x
    rw [hg (15 + j) (by omega) (by omega), hg (25 + j) (by omega) (by omega), hg (35 + j) (by omega) (by omega), hg (45 + j) (by omega) (by omega)]
    exact SR_z s j x y
  · rw [hc (68 + t) (by omega) (by omega), hc (71 + t) (by omega) (by omega), hc (74 + t) (by omega) (by omega), hg (55 + t) (by omega) (by omega), hg (58 + t) (by omega) (by omega), hg (61 + t) (by omega) (by omega)]
    exact SR_t s t x y
  · rw [hg (55 + t) (by omega) (by omega)] at w
    have := l6 t x y
    rw [hc (50 + t * 6 + p) (by omega) (by omega), hg (64 + 6 * t + p) (by omega) (by omega), hg 0 (by decide) (by decide)]
    exact SR_s s t p x y z w
  · rw [hg (55 + t) (by omega) (by omega)] at w
    rw [hg (55 + u) (by omega) (by omega)] at w'
    have := l6 t x y
    have := l6 u x' y'
    rw [hg (64 + 6 * t + p) (by omega) (by omega), hg (64 + 6 * u + q) (by omega) (by omega)] at f
    exact SR_u s t p u q x y z w x' y' z' w' f
  · rw [hc 78 (by decide) (by decide), hc 79 (by decide) (by decide), hg 1 (by decide) (by decide), hg 4 (by decide) (by decide), hg 2 (by decide) (by decide), hg 61 (by decide) (by decide), hg 62 (by decide) (by decide), hg 63 (by decide) (by decide), hg 3 (by decide) (by decide), hg 45 (by decide) (by decide), hg 46 (by decide) (by decide), hg 47 (by decide) (by decide), hg 48 (by decide) (by decide), hg 49 (by decide) (by decide), hg 50 (by decide) (by decide), hg 51 (by decide) (by decide), hg 52 (by decide) (by decide), hg 53 (by decide) (by decide), hg 54 (by decide) (by decide)]
    exact m
theorem cp_gb_L (M : Mem) (src dst : Int) : ∀ (k : Nat) (Mx : Mem) (i : Int), 0 ≤ i → i ≤ 82 → 82 - i < k → ∀ z : Int, fX9_copy_gb_L1 M src dst k Mx i 1 z = if dst + i ≤ z ∧ z < dst + 82 then Mx 0 (src + (z - dst)) else Mx 1 z := by
  intro k
  induction k with
  | zero => intro Mx i _ _ h; omega
  | succ k ih =>
    intro Mx i h0 h1 h2 z
    rw [fX9_copy_gb_L1]
    by_cases hc : 82 ≤ i
    · rw [if_pos hc, if_neg (by omega)]
    · rw [if_neg hc, ih _ _ (by omega) (by omega) (by omega)]
      show (if dst + (i + 1) ≤ z ∧ z < dst + 82 then Mx 0 (src + (z - dst)) else up (Mx 1) (dst + i) (Mx 0 (src + i)) z) = _
      by_cases ha : dst + (i + 1) ≤ z ∧ z < dst + 82
      · rw [if_pos ha, if_pos (by omega)]
      · rw [if_neg ha]
        by_cases hb : z = dst + i
        · rw [if_pos (by omega), hb, up_e]
          congr 1
          omega
        · rw [if_neg (by omega), up_n hb]
theorem cp_gb (M : Mem) (src dst z : Int) : fX9_copy_gb M src dst 1 z = if dst ≤ z ∧ z < dst + 82 then M 0 (src + (z - dst)) else M 1 z := by
  have q := cp_gb_L M src dst 83 M 0 (by decide) (by decide) (by decide) z
  rw [Int.add_zero] at q
  exact q
theorem cp_bg_L (M : Mem) (src dst : Int) : ∀ (k : Nat) (Mx : Mem) (i : Int), 0 ≤ i → i ≤ 82 → 82 - i < k → ∀ z : Int, fX9_copy_bg_L1 M src dst k Mx i 0 z = if dst + i ≤ z ∧ z < dst + 82 then Mx 1 (src + (z - dst)) else Mx 0 z := by
  intro k
  induction k with
  | zero => intro Mx i _ _ h; omega
  | succ k ih =>
    intro Mx i h0 h1 h2 z
    rw [fX9_copy_bg_L1]
    by_cases hc : 82 ≤ i
    · rw [if_pos hc, if_neg (by omega)]
    · rw [if_neg hc, ih _ _ (by omega) (by omega) (by omega)]
      show (if dst + (i + 1) ≤ z ∧ z < dst + 82 then Mx 1 (src + (z - dst)) else up (Mx 0) (dst + i) (Mx 1 (src + i)) z) = _
      by_cases ha : dst + (i + 1) ≤ z ∧ z < dst + 82
      · rw [if_pos ha, if_pos (by omega)]
      · rw [if_neg ha]
        by_cases hb : z = dst + i
        · rw [if_pos (by omega), hb, up_e]
          congr 1
          omega
        · rw [if_neg (by omega), up_n hb]
theorem cp_bg (M : Mem) (src dst z : Int) : fX9_copy_bg M src dst 0 z = if dst ≤ z ∧ z < dst + 82 then M 1 (src + (z - dst)) else M 0 z := by
  have q := cp_bg_L M src dst 83 M 0 (by decide) (by decide) (by decide) z
  rw [Int.add_zero] at q
  exact q
theorem cp_bh_L (M : Mem) (src dst : Int) : ∀ (k : Nat) (Mx : Mem) (i : Int), 0 ≤ i → i ≤ 82 → 82 - i < k → ∀ z : Int, fX9_copy_bh_L1 M src dst k Mx i 2 z = if dst + i ≤ z ∧ z < dst + 82 then Mx 1 (src + (z - dst)) else Mx 2 z := by
  intro k
  induction k with
  | zero => intro Mx i _ _ h; omega
  | succ k ih =>
    intro Mx i h0 h1 h2 z
    rw [fX9_copy_bh_L1]
    by_cases hc : 82 ≤ i
    · rw [if_pos hc, if_neg (by omega)]
    · rw [if_neg hc, ih _ _ (by omega) (by omega) (by omega)]
      show (if dst + (i + 1) ≤ z ∧ z < dst + 82 then Mx 1 (src + (z - dst)) else up (Mx 2) (dst + i) (Mx 1 (src + i)) z) = _
      by_cases ha : dst + (i + 1) ≤ z ∧ z < dst + 82
      · rw [if_pos ha, if_pos (by omega)]
      · rw [if_neg ha]
        by_cases hb : z = dst + i
        · rw [if_pos (by omega), hb, up_e]
          congr 1
          omega
        · rw [if_neg (by omega), up_n hb]
theorem cp_bh (M : Mem) (src dst z : Int) : fX9_copy_bh M src dst 2 z = if dst ≤ z ∧ z < dst + 82 then M 1 (src + (z - dst)) else M 2 z := by
  have q := cp_bh_L M src dst 83 M 0 (by decide) (by decide) (by decide) z
  rw [Int.add_zero] at q
  exact q
theorem cp_hg_L (M : Mem) (src dst : Int) : ∀ (k : Nat) (Mx : Mem) (i : Int), 0 ≤ i → i ≤ 82 → 82 - i < k → ∀ z : Int, fX9_copy_hg_L1 M src dst k Mx i 0 z = if dst + i ≤ z ∧ z < dst + 82 then Mx 2 (src + (z - dst)) else Mx 0 z := by
  intro k
  induction k with
  | zero => intro Mx i _ _ h; omega
  | succ k ih =>
    intro Mx i h0 h1 h2 z
    rw [fX9_copy_hg_L1]
    by_cases hc : 82 ≤ i
    · rw [if_pos hc, if_neg (by omega)]
    · rw [if_neg hc, ih _ _ (by omega) (by omega) (by omega)]
      show (if dst + (i + 1) ≤ z ∧ z < dst + 82 then Mx 2 (src + (z - dst)) else up (Mx 0) (dst + i) (Mx 2 (src + i)) z) = _
      by_cases ha : dst + (i + 1) ≤ z ∧ z < dst + 82
      · rw [if_pos ha, if_pos (by omega)]
      · rw [if_neg ha]
        by_cases hb : z = dst + i
        · rw [if_pos (by omega), hb, up_e]
          congr 1
          omega
        · rw [if_neg (by omega), up_n hb]
theorem cp_hg (M : Mem) (src dst z : Int) : fX9_copy_hg M src dst 0 z = if dst ≤ z ∧ z < dst + 82 then M 2 (src + (z - dst)) else M 0 z := by
  have q := cp_hg_L M src dst 83 M 0 (by decide) (by decide) (by decide) z
  rw [Int.add_zero] at q
  exact q
theorem cp_gs_L (M : Mem) (src dst : Int) : ∀ (k : Nat) (Mx : Mem) (i : Int), 0 ≤ i → i ≤ 82 → 82 - i < k → ∀ z : Int, fX9_copy_gs_L1 M src dst k Mx i 3 z = if dst + i ≤ z ∧ z < dst + 82 then Mx 0 (src + (z - dst)) else Mx 3 z := by
  intro k
  induction k with
  | zero => intro Mx i _ _ h; omega
  | succ k ih =>
    intro Mx i h0 h1 h2 z
    rw [fX9_copy_gs_L1]
    by_cases hc : 82 ≤ i
    · rw [if_pos hc, if_neg (by omega)]
    · rw [if_neg hc, ih _ _ (by omega) (by omega) (by omega)]
      show (if dst + (i + 1) ≤ z ∧ z < dst + 82 then Mx 0 (src + (z - dst)) else up (Mx 3) (dst + i) (Mx 0 (src + i)) z) = _
      by_cases ha : dst + (i + 1) ≤ z ∧ z < dst + 82
      · rw [if_pos ha, if_pos (by omega)]
      · rw [if_neg ha]
        by_cases hb : z = dst + i
        · rw [if_pos (by omega), hb, up_e]
          congr 1
          omega
        · rw [if_neg (by omega), up_n hb]
theorem cp_gs (M : Mem) (src dst z : Int) : fX9_copy_gs M src dst 3 z = if dst ≤ z ∧ z < dst + 82 then M 0 (src + (z - dst)) else M 3 z := by
  have q := cp_gs_L M src dst 83 M 0 (by decide) (by decide) (by decide) z
  rw [Int.add_zero] at q
  exact q
theorem cp_sg_L (M : Mem) (src dst : Int) : ∀ (k : Nat) (Mx : Mem) (i : Int), 0 ≤ i → i ≤ 82 → 82 - i < k → ∀ z : Int, fX9_copy_sg_L1 M src dst k Mx i 0 z = if dst + i ≤ z ∧ z < dst + 82 then Mx 3 (src + (z - dst)) else Mx 0 z := by
  intro k
  induction k with
  | zero => intro Mx i _ _ h; omega
  | succ k ih =>
    intro Mx i h0 h1 h2 z
    rw [fX9_copy_sg_L1]
    by_cases hc : 82 ≤ i
    · rw [if_pos hc, if_neg (by omega)]
    · rw [if_neg hc, ih _ _ (by omega) (by omega) (by omega)]
      show (if dst + (i + 1) ≤ z ∧ z < dst + 82 then Mx 3 (src + (z - dst)) else up (Mx 0) (dst + i) (Mx 3 (src + i)) z) = _
      by_cases ha : dst + (i + 1) ≤ z ∧ z < dst + 82
      · rw [if_pos ha, if_pos (by omega)]
      · rw [if_neg ha]
        by_cases hb : z = dst + i
        · rw [if_pos (by omega), hb, up_e]
          congr 1
          omega
        · rw [if_neg (by omega), up_n hb]
theorem cp_sg (M : Mem) (src dst z : Int) : fX9_copy_sg M src dst 0 z = if dst ≤ z ∧ z < dst + 82 then M 3 (src + (z - dst)) else M 0 z := by
  have q := cp_sg_L M src dst 83 M 0 (by decide) (by decide) (by decide) z
  rw [Int.add_zero] at q
  exact q
def RH (C G : Mem) : Prop := (C 9 0 = G 13 0 ∧ 0 ≤ G 13 0 ∧ G 13 0 ≤ 8) ∧ ∀ i : Int, 0 ≤ i → i < G 13 0 → RW (fun j => C 8 (80 * i + j)) (fun j => G 2 (82 * i + j))
theorem RH_of {C G C' G' : Mem} (h : RH C G) (h8 : C' 8 = C 8) (h9 : C' 9 = C 9) (g2 : G' 2 = G 2) (g13 : G' 13 = G 13) : RH C' G' := by
  unfold RH at *
  rw [h8, h9, g2, g13]
  exact h
theorem kL_e (M : Mem) (v : Int) : ∀ (k : Nat) (Mx : Mem) (i : Int), 0 ≤ i → i ≤ 574 → 574 - i < k → ∃ My : Mem, fX9_kept_L1 M v k Mx i = (v, msf (fX9_copy_bh (msf My 13 (My 13 0 - 1)) 0 ((My 13 0 - 1) * 82)) 13 ((fX9_copy_bh (msf My 13 (My 13 0 - 1)) 0 ((My 13 0 - 1) * 82)) 13 0 + 1)) ∧ (∀ r : Nat, Nat.beq r 2 = false → My r = Mx r) ∧ ∀ z : Int, My 2 z = if i ≤ z ∧ z < 574 then Mx 2 (z + 82) else Mx 2 z := by
  intro k
  induction k with
  | zero => intro Mx i _ _ h; omega
  | succ k ih =>
    intro Mx i h0 h1 h2
    rw [fX9_kept_L1]
    by_cases hc : 574 ≤ i
    · rw [if_pos hc]
      exact ⟨Mx, rfl, fun r _ => rfl, fun z => by rw [if_neg (by omega)]⟩
    · rw [if_neg hc]
      obtain ⟨My, a, b, d⟩ := ih (mst Mx 2 i (Mx 2 (i + 82))) (i + 1) (by omega) (by omega) (by omega)
      refine ⟨My, a, fun r hr => by rw [b r hr, mst_o hr], fun z => ?_⟩
      rw [d z]
      show (if i + 1 ≤ z ∧ z < 574 then up (Mx 2) i (Mx 2 (i + 82)) (z + 82) else up (Mx 2) i (Mx 2 (i + 82)) z) = _
      by_cases ha : i + 1 ≤ z ∧ z < 574
      · rw [if_pos ha, if_pos (by omega), up_n (by omega)]
      · rw [if_neg ha]
        by_cases hb : z = i
        · rw [if_pos (by omega), hb, up_e]
        · rw [if_neg (by omega), up_n hb]
/-- a change that can be undone -/
theorem kept_ok {M : Mem} (h26 : M 26 0 = 0) (hn : 0 ≤ M 13 0 ∧ M 13 0 ≤ 8) (v : Int) : (fX9_kept M v).1 = v ∧ (∀ r : Nat, Nat.beq r 2 = false → Nat.beq r 13 = false → (fX9_kept M v).2 r = M r) ∧ (fX9_kept M v).2 13 0 = (if M 13 0 = 8 then 8 else M 13 0 + 1) ∧
    ∀ i j : Int, 0 ≤ i → i < (if M 13 0 = 8 then 8 else M 13 0 + 1) → 0 ≤ j → j < 82 → (fX9_kept M v).2 2 (82 * i + j) = if i = (if M 13 0 = 8 then 7 else M 13 0) then M 1 j else if M 13 0 = 8 then M 2 (82 * (i + 1) + j) else M 2 (82 * i + j) := by
  unfold fX9_kept
  rw [if_pos h26]
  by_cases h8 : M 13 0 = 8
  · rw [if_pos h8]
    obtain ⟨My, a, b, d⟩ := kL_e M v 575 M 0 (by decide) (by decide) (by decide)
    have m13 : My 13 = M 13 := b 13 rfl
    rw [a]
    have e13 : (fX9_copy_bh (msf My 13 (My 13 0 - 1)) 0 ((My 13 0 - 1) * 82)) 13 0 = 7 := by
      rw [fr_fX9_copy_bh _ _ rfl]
      show My 13 0 - 1 = 7
      rw [m13, h8]
      rfl
    refine ⟨rfl, fun r h2 h13 => ?_, ?_, fun i j x y z w => ?_⟩
    · dsimp only
      rw [msf_o h13, fr_fX9_copy_bh _ _ h2, msf_o h13, b r h2]
    · dsimp only
      show (fX9_copy_bh (msf My 13 (My 13 0 - 1)) 0 ((My 13 0 - 1) * 82)) 13 0 + 1 = _
      rw [e13, if_pos h8]
      rfl
    · dsimp only
      rw [msf_o (k := 13) (r := 2) rfl, cp_bh, m13, h8, if_pos rfl, if_pos rfl]
      rw [h8, if_pos rfl] at y
      rw [msf_o (k := 13) (r := 1) rfl, msf_o (k := 13) (r := 2) rfl]
      by_cases hi : i = 7
      · rw [if_pos (by omega), if_pos hi, b 1 rfl, show 0 + (82 * i + j - (8 - 1) * 82) = j by omega]
      · rw [if_neg (by omega), if_neg hi, d, if_pos (by omega), show 82 * i + j + 82 = 82 * (i + 1) + j by omega]
  · rw [if_neg h8]
    have e13 : (fX9_copy_bh M 0 (M 13 0 * 82)) 13 0 = M 13 0 := by rw [fr_fX9_copy_bh _ _ rfl]
    refine ⟨rfl, fun r h2 h13 => ?_, ?_, fun i j x y z w => ?_⟩
    · dsimp only
      rw [msf_o h13, fr_fX9_copy_bh _ _ h2]
    · show (fX9_copy_bh M 0 (M 13 0 * 82)) 13 0 + 1 = _
      rw [e13, if_neg h8]
    · dsimp only
      rw [if_neg h8] at y
      rw [msf_o (k := 13) (r := 2) rfl, cp_bh, if_neg h8, if_neg h8]
      by_cases hi : i = M 13 0
      · rw [if_pos (by omega), if_pos hi, show 0 + (82 * i + j - M 13 0 * 82) = j by omega]
      · rw [if_neg (by omega), if_neg hi]
theorem push_ok {M : Mem} (hn : 0 ≤ M 9 0 ∧ M 9 0 ≤ 8) : fX2_push M 9 0 = (if M 9 0 = 8 then 8 else M 9 0 + 1) ∧
    ∀ i j : Int, 0 ≤ i → i < (if M 9 0 = 8 then 8 else M 9 0 + 1) → 0 ≤ j → j < 80 → fX2_push M 8 (80 * i + j) = if i = (if M 9 0 = 8 then 7 else M 9 0) then M 14 j else if M 9 0 = 8 then M 8 (80 * (i + 1) + j) else M 8 (80 * i + j) := by
  unfold fX2_push
  by_cases h8 : M 9 0 = 8
  · rw [if_neg (by omega), if_pos h8, if_pos h8]
    refine ⟨rfl, fun i j x y z w => ?_⟩
    show cpI (M 14) (cpI (M 8) (M 8) 80 0 560) 0 (7 * 80) 80 (80 * i + j) = _
    unfold cpI
    rw [if_pos h8]
    by_cases hi : i = 7
    · rw [if_pos (by omega), if_pos hi]
      congr 1
      omega
    · rw [if_neg (by omega), if_neg hi, if_pos (by omega)]
      congr 1
      omega
  · rw [if_pos (by omega), if_neg (by omega), if_neg h8, if_neg h8]
    refine ⟨rfl, fun i j x y z w => ?_⟩
    show cpI (M 14) (M 8) 0 (M 9 0 * 80) 80 (80 * i + j) = _
    unfold cpI
    rw [if_neg h8]
    by_cases hi : i = M 9 0
    · rw [if_pos (by omega), if_pos hi]
      congr 1
      omega
    · rw [if_neg (by omega), if_neg hi]
theorem hist_R {A B : Mem} (h : RH A B) (hr : RW (A 14) (B 1)) (h26 : B 26 0 = 0) (v : Int) : RH (fX2_push A) (fX9_kept B v).2 := by
  obtain ⟨⟨e, h0, h8⟩, hh⟩ := h
  obtain ⟨-, -, k1, k2⟩ := kept_ok h26 ⟨h0, h8⟩ v
  obtain ⟨p1, p2⟩ := push_ok (M := A) (by omega)
  unfold RH
  rw [k1, p1, e]
  refine ⟨⟨rfl, by split <;> omega, by split <;> omega⟩, fun i x y => ?_⟩
  by_cases hi : i = (if B 13 0 = 8 then 7 else B 13 0)
  · refine RW_ext hr (fun j a b => ?_) (fun j a b => ?_)
    · rw [p2 i j x (by rw [e]; exact y) a b, e, if_pos hi]
    · rw [k2 i j x y a b, if_pos hi]
  · by_cases hb : B 13 0 = 8
    · rw [if_pos hb] at hi y
      refine RW_ext (hh (i + 1) (by omega) (by omega)) (fun j a b => ?_) (fun j a b => ?_)
      · rw [p2 i j x (by rw [e, if_pos hb]; exact y) a b, e, if_pos hb, if_neg hi, if_pos hb]
      · rw [k2 i j x (by rw [if_pos hb]; exact y) a b, if_pos hb, if_neg hi, if_pos hb]
    · rw [if_neg hb] at hi y
      refine RW_ext (hh i x (by omega)) (fun j a b => ?_) (fun j a b => ?_)
      · rw [p2 i j x (by rw [e, if_neg hb]; exact y) a b, e, if_neg hb, if_neg hi, if_neg hb]
      · rw [k2 i j x (by rw [if_neg hb]; exact y) a b, if_neg hb, if_neg hi, if_neg hb]
/-- a change that failed: all is as before -/
theorem kept_no {M : Mem} (h26 : ¬ M 26 0 = 0) (v : Int) : (fX9_kept M v).1 = 0 ∧ (fX9_kept M v).2 = fX9_copy_bg M 0 0 := by
  unfold fX9_kept
  rw [if_neg h26]
  refine ⟨?_, ?_⟩ <;> dsimp only
def RN (C G : Mem) : Prop := C 16 0 = G 15 0 ∧ (0 ≤ G 15 0 ∧ G 15 0 ≤ 1) ∧ (¬ G 15 0 = 0 → RW (C 15) (G 3))
def RT (C G : Mem) : Prop := TI C ∧ RI G ∧ TL G ∧ C 11 0 = G 17 0 ∧ ∀ j : Int, 0 ≤ j → j < G 17 0 → C 10 j = G 4 j
def RLn (C G : Mem) : Prop := LN C ∧ WI G ∧ C 13 0 = G 25 0 ∧ ∀ j : Int, 0 ≤ j → j < G 25 0 → C 12 j = G 5 j
def RX (C G : Mem) : Prop := (C 17 0 = G 18 0 ∧ -1 ≤ G 18 0 ∧ G 18 0 ≤ 1000) ∧ (C 18 0 = 16 * G 19 0 + G 20 0 ∧ 0 ≤ G 19 0 ∧ G 19 0 ≤ 9 ∧ 0 ≤ G 20 0 ∧ G 20 0 ≤ 15 ∧ (G 19 0 = 0 → G 20 0 = 0)) ∧ (C 19 0 = 16 * G 21 0 + G 22 0 ∧ 0 ≤ G 21 0 ∧ G 21 0 ≤ 9 ∧ 0 ≤ G 22 0 ∧ G 22 0 ≤ 15 ∧ (G 21 0 = 0 → G 22 0 = 0)) ∧ (0 ≤ G 23 0 ∧ G 23 0 ≤ 1)
theorem RN_of {C G C' G' : Mem} (h : RN C G) (a : C' 15 = C 15) (b : C' 16 = C 16) (c : G' 3 = G 3) (d : G' 15 = G 15) : RN C' G' := by unfold RN at *; rw [a, b, c, d]; exact h
theorem RT_of {C G C' G' : Mem} (h : RT C G) (a : C' 10 = C 10) (b : C' 11 = C 11) (g4 : G' 4 = G 4) (g6 : G' 6 = G 6) (g17 : G' 17 = G 17) (g27 : G' 27 = G 27) (g28 : G' 28 = G 28) : RT C' G' := by
  unfold RT TI RI TL at *
  rw [a, b, g4, g6, g17, g27, g28]
  exact h
theorem RLn_of {C G C' G' : Mem} (h : RLn C G) (a : C' 12 = C 12) (b : C' 13 = C 13) (c : G' 5 = G 5) (d : G' 25 = G 25) : RLn C' G' := by unfold RLn LN WI at *; rw [a, b, c, d]; exact h
theorem RX_of {C G C' G' : Mem} (h : RX C G) (a : C' 17 = C 17) (b : C' 18 = C 18) (c : C' 19 = C 19) (g18 : G' 18 = G 18) (g19 : G' 19 = G 19) (g20 : G' 20 = G 20) (g21 : G' 21 = G 21) (g22 : G' 22 = G 22) (g23 : G' 23 = G 23) : RX C' G' := by
  unfold RX at *
  rw [a, b, c, g18, g19, g20, g21, g22, g23]
  exact h
/-- the class's cells and the model's: alike in all that a call can show -/
def RelR (C G : Mem) : Prop := RW (C 0) (G 0) ∧ SI C ∧ RH C G ∧ RN C G ∧ RT C G ∧ RLn C G ∧ RX C G
