/-! SMALL FACTS for the law's walk. -/
set_option maxRecDepth 100000 in
theorem sG0 : ∀ k : Fin 26, ∀ i : Fin (sCs k.val).length, 0 ≤ gT (sCs k.val) (i.val : Int) ∧ gT (sCs k.val) (i.val : Int) < 128 := by decide +kernel
theorem sG {k : Nat} (hk : k < 26) : ∀ i : Int, 0 ≤ i → i < (sCs k).length → 0 ≤ gT (sCs k) i ∧ gT (sCs k) i < 128 := fun i a b => by
  obtain ⟨j, rfl⟩ := Int.eq_ofNat_of_zero_le a
  exact sG0 ⟨k, hk⟩ ⟨j, by show j < (sCs k).length; omega⟩
theorem sG2 {k : Nat} (hk : k < 26) : ∀ i : Int, 0 ≤ i → i < (sCs k).length → 0 ≤ gT (sCs k) i ∧ gT (sCs k) i < 256 := fun i a b => by
  have h := sG hk i a b
  exact ⟨h.1, by omega⟩
theorem nap4 {X B : Mem} (h : REq X B) (h1 : 1 ≤ B 0 77) : fX8_napkinOf X 0 4 = (0, fX6_tableUnder B 0) := by
  rw [q_napkinOf h]
  unfold fX8_napkinOf
  rw [hasN (by decide) (by omega)]
  rfl
theorem tab20 (X : Mem) : fX8_tableOf X 2 0 = (0, fX6_laidOn X 2, X) := rfl
theorem acc10 (X : Mem) : fX8_account X 10 = (0, X 11 0, X) := rfl
theorem acc11 (X : Mem) : fX8_account X 11 = (0, X 9 0, X) := rfl
theorem undo_v {U V : Mem} {v : Int} (h : fX8_undo U = (0, v, V)) : v = V 9 0 := by
  unfold fX8_undo at h
  split at h
  · have h1 := congrArg Prod.fst h
    exact absurd (show (5 : Int) = 0 from h1) (by decide)
  · have h2 := congrArg (fun x => x.2.1) h
    have h3 := congrArg (fun x => x.2.2) h
    have h2 : fX2_size (fX6_copyFrom_b (fX2_pop U)) = v := h2
    have h3 : fX6_copyFrom_b (fX2_pop U) = V := h3
    rw [← h2, h3]
    rfl
theorem ref_ff {M : Mem} {v : Int} (h : M 18 0 = v) (h0 : ¬ v = 0) : fX8_refusal M 0 0 = (0, v / 16) := by
  unfold fX8_refusal
  rw [if_pos rfl, h, if_neg h0, if_pos rfl]
theorem ref_ft {M : Mem} {v : Int} (h : M 18 0 = v) (h0 : ¬ v = 0) : fX8_refusal M 0 1 = (0, v % 16) := by
  unfold fX8_refusal
  rw [if_pos rfl, h, if_neg h0, if_neg (by decide)]
theorem ref_tt {M : Mem} {v : Int} (h : M 19 0 = v) (h0 : ¬ v = 0) : fX8_refusal M 1 1 = (0, v % 16) := by
  unfold fX8_refusal
  rw [if_neg (by decide), h, if_neg h0, if_neg (by decide)]
theorem cau_n {M : Mem} (h : M 19 0 = 0) : fL_cause M = -1 := by
  unfold fL_cause fX8_refusal
  rw [if_neg (by decide), h, if_pos rfl, c1_4]
theorem cau_v {M : Mem} {v : Int} (h : M 19 0 = v) (h0 : ¬ v = 0) : fL_cause M = v / 16 := by
  unfold fL_cause fX8_refusal
  rw [if_neg (by decide), h, if_neg h0, if_pos rfl, c1_0]
theorem run_no {M N : Mem} (h : fX8_read M = (3, 0, N)) : fL_runs M = -2 ∧ (fX8_read M).2.2 = N := by
  unfold fL_runs
  rw [h]
  exact ⟨r1_3 0 N, rfl⟩
/-- what the calls of lay and take answer -/
theorem lay_v {M : Mem} (hC : CI M) {a t d : Int} (ht : 0 ≤ t ∧ t < 3) : 0 ≤ (fX5_carryOut M 6 a t d).1 ∧ (fX5_carryOut M 6 a t d).1 ≤ 6 := by
  rw [c6]
  show 0 ≤ fX6_laidOn M t ∧ fX6_laidOn M t ≤ 6
  rw [laid_e ht]
  exact CI_6 hC t ht.1 ht.2
theorem take_v {M : Mem} {n a d : Int} (h : 0 ≤ (fX5_carryOut M 3 n a d).1) : (fX5_carryOut M 3 n a d).1 ≤ 6 := by
  rw [c3] at h ⊢
  have h : 0 ≤ fX6_placeUnder M n := h
  show fX6_placeUnder M n ≤ 6
  rcases cunder (M := M) n with ⟨-, -, y⟩ | ⟨-, -, -, y, -⟩ <;> omega
theorem tu_r {M : Mem} (n : Int) : -1 ≤ fX6_tableUnder M n ∧ fX6_tableUnder M n ≤ 2 := by
  rcases cunder (M := M) n with ⟨-, y, -⟩ | ⟨x, y, -⟩ <;> omega
/-- the two undone, from the two calls -/
theorem y_go {B : Mem} (hB : BI B) {c1 a1 b1 d1 c2 a2 b2 d2 : Int} (j1 : (fX5_judge B c1 a1 b1 d1).1 = 0) (j2 : (fX5_judge (fX5_carryOut B c1 a1 b1 d1).2 c2 a2 b2 d2).1 = 0) : fX8_change B c1 a1 b1 d1 = (0, (fX5_carryOut B c1 a1 b1 d1).1, cM B c1 a1 b1 d1) ∧ OI (cM B c1 a1 b1 d1) ∧ fX8_change (cM B c1 a1 b1 d1) c2 a2 b2 d2 = (0, (fX5_carryOut (fX5_carryOut B c1 a1 b1 d1).2 c2 a2 b2 d2).1, cM (cM B c1 a1 b1 d1) c2 a2 b2 d2) ∧ OI (cM (cM B c1 a1 b1 d1) c2 a2 b2 d2) ∧ REq (cM (cM B c1 a1 b1 d1) c2 a2 b2 d2) (fX5_carryOut (fX5_carryOut B c1 a1 b1 d1).2 c2 a2 b2 d2).2 ∧ ∀ U : Mem, SameS (cM (cM B c1 a1 b1 d1) c2 a2 b2 d2) U → OI U → ∃ V V2 : Mem, ∃ v v2 : Int, fX8_undo U = (0, v, V) ∧ (0 ≤ v ∧ v ≤ 8) ∧ OI V ∧ fX8_undo V = (0, v2, V2) ∧ (0 ≤ v2 ∧ v2 ≤ 8) ∧ OI V2 ∧ REq V2 B := by
  obtain ⟨e1, o1, r1⟩ := y_do (OI_B hB) (REq.rf B) j1 rfl
  have j22 : (fX5_judge (cM B c1 a1 b1 d1) c2 a2 b2 d2).1 = 0 := (ju_c r1 c2 a2 b2 d2).1.trans j2
  obtain ⟨e2, o2, r2⟩ := y_do o1 r1 j2 rfl
  refine ⟨e1, o1, e2, o2, r2, fun U hU oU => ?_⟩
  obtain ⟨V, V2, v, v2, u1, u2, u3, u4, u5, u6, u7⟩ := y_undo2 (OI_B hB) j1 j22 hU oU
  have w1 := undo_v u1
  have w2 := undo_v u4
  have n1 : 0 ≤ V 9 0 ∧ V 9 0 ≤ 8 := u3.2.2.2.1
  have n2 : 0 ≤ V2 9 0 ∧ V2 9 0 ≤ 8 := u6.2.2.2.1
  exact ⟨V, V2, v, v2, u1, ⟨u2, by omega⟩, u3, u4, ⟨u5, by omega⟩, u6, u7⟩
/-- move 2 77 is never fine: no table has a place 7 -/
theorem mv_no {B : Mem} (hC : CI B) : (fX5_judge B 7 2 7 7).1 = -1 := by
  rw [j7]
  show fX5_judgeMove B 2 7 7 = -1
  unfold fX5_judgeMove fX6_hasPlace
  have x := CI_6 hC 2 (by decide) (by decide)
  have hp : (if (7 : Int) < 0 then (0 : Int) else if fX6_laidOn B 2 ≤ 7 then 0 else 1) = 0 := by
    rw [if_neg (by decide), if_pos (by rw [laid_e (by decide)]; omega)]
  rw [isT (by decide), if_neg (by decide), if_pos hp]
theorem gen_x {g g' : Int → Int} {n : Nat} (h : ∀ j : Fin n, g (j.val : Int) = g' (j.val : Int)) : ∀ j : Int, 0 ≤ j → j < n → g j = g' j := fun j a b => by
  obtain ⟨k, rfl⟩ := Int.eq_ofNat_of_zero_le a
  exact h ⟨k, by omega⟩
theorem gen_r {g : Int → Int} {n : Nat} (h : ∀ j : Fin n, 0 ≤ g (j.val : Int) ∧ g (j.val : Int) < 128) : ∀ j : Int, 0 ≤ j → j < n → 0 ≤ g j ∧ g j < 128 := fun j a b => by
  obtain ⟨k, rfl⟩ := Int.eq_ofNat_of_zero_le a
  exact h ⟨k, by omega⟩
