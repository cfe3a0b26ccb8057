/-! AN ORDER of the text, read alike. -/
theorem tN (X : Mem) (c : Int) : tcM (fX9_needs X c) = tcM X := tc_of (fr_fX9_needs c rfl rfl) (fr_fX9_needs c rfl rfl)
theorem tT (X : Mem) (a b c : Int) : tcM (fX9_needsThree X a b c) = tcM X := tc_of (fr_fX9_needsThree a b c rfl rfl) (fr_fX9_needsThree a b c rfl rfl)
theorem tF (X : Mem) : tcM (fX9_figure X).2 = tcM X := tc_of (fr_fX9_figure rfl rfl) (fr_fX9_figure rfl rfl)
theorem tB (X : Mem) (c : Int) : tcM (fX9_figureBehind X c).2 = tcM X := tc_of (fr_fX9_figureBehind c rfl rfl) (fr_fX9_figureBehind c rfl rfl)
theorem tH (X : Mem) : tcM (fX9_foldHere X).2 = tcM X := tc_of (fr_fX9_foldHere rfl rfl) (fr_fX9_foldHere rfl rfl)
theorem tM (X : Mem) (z v : Int) : tcM (mst X 6 z v) = tcM X := tc_of (mst_o rfl) (mst_o rfl)
theorem tS (X : Mem) (v : Int) : tcM (msf X 27 v) = tcM X := tc_of (msf_o rfl) (msf_o rfl)
theorem bM (X : Mem) (z v : Int) : bq (mst X 6 z v) = bq X := rfl
theorem bT (X : Mem) {a b c : Int} (a1 : ¬ a = 35) (a2 : ¬ a = 64) (b1 : ¬ b = 35) (b2 : ¬ b = 64) (c1 : ¬ c = 35) (c2 : ¬ c = 64) : bq (fX9_needsThree X a b c) = stp (tcM X) c (stp (tcM X) b (stp (tcM X) a (bq X))) := by
  unfold fX9_needsThree
  rw [bq_needs _ c1 c2, bq_needs _ b1 b2, bq_needs _ a1 a2, tN, tN]
theorem bB (X : Mem) {c : Int} (c1 : ¬ c = 35) (c2 : ¬ c = 64) : bq (fX9_figureBehind X c).2 = stp (tcM X) 35 (stp (tcM X) c (bq X)) := by
  unfold fX9_figureBehind
  dsimp only
  rw [bq_figure, bq_needs _ c1 c2, tN]
theorem r6N (X : Mem) (c : Int) : fX9_needs X c 6 = X 6 := fr_fX9_needs c rfl rfl
theorem r6T (X : Mem) (a b c : Int) : fX9_needsThree X a b c 6 = X 6 := fr_fX9_needsThree a b c rfl rfl
theorem r6F (X : Mem) : (fX9_figure X).2 6 = X 6 := fr_fX9_figure rfl rfl
theorem r6B (X : Mem) (c : Int) : (fX9_figureBehind X c).2 6 = X 6 := fr_fX9_figureBehind c rfl rfl
theorem r6H (X : Mem) : (fX9_foldHere X).2 6 = X 6 := fr_fX9_foldHere rfl rfl
theorem r6M (X : Mem) (z v : Int) : mst X 6 z v 6 = up (X 6) z v := rfl
theorem r6S (X : Mem) (v : Int) : msf X 27 v 6 = X 6 := rfl
theorem pre_ok {tc : Int → Int} : ∀ (A B : List Int) (s : Int), mtL tc (A ++ B) s = (A ++ B).length → stps tc A (0, s) = (0, s + A.length) := by
  intro A
  induction A with
  | nil => intro B s _; show (0, s) = (0, s + 0); rw [Int.add_zero]
  | cons fc r ih =>
    intro B s h
    rw [List.cons_append, mtL, List.length_cons] at h
    have m := mt_r tc (r ++ B) (s + 1)
    split at h
    · rename_i hp
      rw [stps, show stp tc fc (0, s) = (0, s + 1) from by unfold stp; dsimp only; rw [if_pos rfl, if_pos hp], ih B (s + 1) (by omega), List.length_cons, show s + 1 + (r.length : Int) = s + ((r.length + 1 : Nat) : Int) by omega]
    · omega
theorem pk_ok {tc : Int → Int} {fc : Int} : ∀ (A B : List Int) (s : Int), mtL tc (A ++ fc :: B) s = (A ++ fc :: B).length → pkB fc (tc (s + A.length)) = true := by
  intro A
  induction A with
  | nil =>
    intro B s h
    rw [List.nil_append, mtL, List.length_cons] at h
    have m := mt_r tc B (s + 1)
    split at h
    · rename_i hp
      rw [show s + ((([] : List Int).length : Nat) : Int) = s from Int.add_zero s]
      exact hp
    · omega
  | cons a r ih =>
    intro B s h
    rw [List.cons_append, mtL, List.length_cons] at h
    have m := mt_r tc (r ++ fc :: B) (s + 1)
    split at h
    · have := ih B (s + 1) (by omega)
      rw [List.length_cons, show s + ((r.length + 1 : Nat) : Int) = s + 1 + (r.length : Int) by omega]
      exact this
    · omega
/-- a figure's value: the class's and the model's -/
theorem fb_v {X : Mem} {tc : Int → Int} {c q : Int} (hX : tcM X = tc) (c1 : ¬ c = 35) (c2 : ¬ c = 64) (hb : bq X = (0, q)) (hp : pkB c (tc q) = true) (hd : pkB 35 (tc (q + 1)) = true) : (fX9_figureBehind X c).1 = tc (q + 1) - 48 := by
  have e : bq (fX9_needs X c) = (0, q + 1) := by
    rw [bq_needs _ c1 c2, hX, hb]
    unfold stp
    dsimp only
    rw [if_pos rfl, if_pos hp]
  have e27 : fX9_needs X c 27 0 = q + 1 := congrArg Prod.snd e
  show (fX9_figure (fX9_needs X c)).1 = _
  rw [fig_v (by rw [e, tN, hX]; unfold stp; dsimp only; rw [if_pos rfl, if_pos hd]), e27, tN, hX]
theorem fi_v {X : Mem} {tc : Int → Int} {q : Int} (hX : tcM X = tc) (hb : bq X = (0, q)) (hd : pkB 35 (tc q) = true) : (fX9_figure X).1 = tc q - 48 := by
  have e27 : X 27 0 = q := congrArg Prod.snd hb
  rw [fig_v (by rw [hb, hX]; unfold stp; dsimp only; rw [if_pos rfl, if_pos hd]), e27, hX]
theorem va_35 {C G : Mem} (h : TX C G) {i : Int} (h0 : 0 ≤ i) (h1 : i < G 17 0) (hd : pkB 35 (tcM G i) = true) : fX7_valueOf 35 (fX7_signAt C i) = tcM G i - 48 := by
  unfold pkB at hd
  rw [if_pos rfl] at hd
  rw [sg_e h h0 h1, vo_35, if_pos (of_decide_eq_true hd)]
theorem va_64 {C G : Mem} (h : TX C G) {i : Int} (h0 : 0 ≤ i) (h1 : i < G 17 0) (hd : pkB 64 (tcM G i) = true) : fX7_valueOf 64 (fX7_signAt C i) = fX9_foldOf (tcM G i) := by
  unfold pkB at hd
  rw [if_neg (by decide), if_pos rfl] at hd
  rw [sg_e h h0 h1, vo_64, if_neg (of_decide_eq_true hd)]
/-- what an order's reading does, told by the class's words -/
def RdO (C G M N : Mem) (co k : Int) : Prop :=
  bq N = (if mtL (tcM G) (formL co) (M 27 0) = (formL co).length then (0, M 27 0 + (formL co).length) else (1, M 27 0 + mtL (tcM G) (formL co) (M 27 0))) ∧
  (∀ z : Int, z < k ∨ k + 4 ≤ z → N 6 z = M 6 z) ∧ N 6 k = letC co ∧
  (mtL (tcM G) (formL co) (M 27 0) = (formL co).length → N 6 (k + 1) = fX7_argument C co (M 27 0) 0 ∧ ((co = 1 ∨ co = 6 ∨ co = 7 ∨ co = 8) → N 6 (k + 2) = fX7_argument C co (M 27 0) 1) ∧ (co = 7 → N 6 (k + 3) = fX7_argument C co (M 27 0) 2))
theorem bq_fin {tc : Int → Int} {L : List Int} {c s : Int} (hp : pkB c (tc s) = true) : stps tc L (0, s + 1) = (if mtL tc (c :: L) s = ((c :: L).length : Int) then (0, s + ((c :: L).length : Int)) else (1, s + mtL tc (c :: L) s)) := by
  have m := mt_r tc L (s + 1)
  rw [stps_0, mtL, if_pos hp, List.length_cons]
  by_cases he : mtL tc L (s + 1) = L.length
  · rw [if_pos he, if_pos (by omega), show s + 1 + (L.length : Int) = s + ((L.length + 1 : Nat) : Int) by omega]
  · rw [if_neg he, if_neg (by omega), show s + 1 + mtL tc L (s + 1) = s + (1 + mtL tc L (s + 1)) by omega]

theorem ro_0 {C G M : Mem} (h : TX C G) (hM : tcM M = tcM G) (h28 : M 28 0 = 0) (h0 : 0 ≤ M 27 0) (k : Int) (hl : tcM G (M 27 0) = 110) : RdO C G M (fX9_readsOrder M k) 0 k := by
  have hh : fX9_here M = 110 := by rw [here_e, hM]; exact hl
  have hp : pkB 110 (tcM G (M 27 0)) = true := (pk_pl (by decide) (by decide)).mpr hl
  have eN : fX9_readsOrder M k = (mst (fX9_figureBehind (fX9_needs (fX9_needs (mst (msf M 27 (M 27 0 + 1)) 6 k (fX9_here M)) 101) 119) 32).2 6 (k + 1) (fX9_figureBehind (fX9_needs (fX9_needs (mst (msf M 27 (M 27 0 + 1)) 6 k (fX9_here M)) 101) 119) 32).1) := by
    unfold fX9_readsOrder
    rw [if_neg (show ¬ fX9_here M = 102 by rw [hh]; decide), if_neg (show ¬ fX9_here M = 108 by rw [hh]; decide), if_neg (show ¬ fX9_here M = 109 by rw [hh]; decide), if_pos hh]
  generalize hB0 : mst (msf M 27 (M 27 0 + 1)) 6 k (fX9_here M) = B0 at eN
  have b0 : bq B0 = (0, M 27 0 + 1) := by rw [← hB0]; show (M 28 0, M 27 0 + 1) = _; rw [h28]
  have b0t : tcM B0 = tcM G := by rw [← hB0, tM, tS, hM]
  have b6 : B0 6 = up (M 6) k 110 := by rw [← hB0, r6M, r6S, hh]
  have hM : tcM B0 = tcM G := b0t
  have e1 : bq ((fX9_needs (fX9_needs B0 101) 119)) = stps (tcM G) [101, 119] (0, M 27 0 + 1) := by
    simp only [bM, bT, bB, bq_needs, bq_figure, bq_fold, tN, tT, tF, tB, tH, tM, tS, hM, not_false_eq_true, Int.reduceEq, b0]
    rfl
  have t1 : tcM ((fX9_needs (fX9_needs B0 101) 119)) = tcM G := by simp only [tN, tT, tF, tB, tH, tM, tS, b0t]
  have n6 : fX9_readsOrder M k 6 = up (up (M 6) k 110) (k + 1) (fX9_figureBehind (fX9_needs (fX9_needs B0 101) 119) 32).1 := by
    rw [eN]
    simp only [r6N, r6T, r6F, r6B, r6H, r6M, b6]
  have bN : bq (fX9_readsOrder M k) = stps (tcM G) [101, 119, 32, 35] (0, M 27 0 + 1) := by
    rw [eN]
    simp only [bM, bT, bB, bq_needs, bq_figure, bq_fold, tN, tT, tF, tB, tH, tM, tS, hM, not_false_eq_true, Int.reduceEq, b0]
    rfl
  refine ⟨?_, fun z hz => ?_, ?_, fun hm => ?_⟩
  · rw [bN]
    exact bq_fin hp
  · rw [n6]
    simp (disch := omega) only [up_n]
  · rw [n6]
    simp (disch := omega) only [up_n, up_e]
    rfl
  · have hm0 : mtL (tcM G) [110, 101, 119, 32, 35] (M 27 0) = 5 := hm
    have hin := mt_in G [110, 101, 119, 32, 35] (M 27 0) (by decide) (by decide) hm0
    have hin2 : M 27 0 + 5 ≤ G 17 0 := hin
    have hm1 : mtL (tcM G) [101, 119, 32, 35] (M 27 0 + 1) = 4 := by
      have q : (if pkB 110 (tcM G (M 27 0)) = true then 1 + mtL (tcM G) [101, 119, 32, 35] (M 27 0 + 1) else 0) = 5 := hm0
      rw [if_pos hp] at q
      omega
    rw [n6]
    have p1 := e1.trans (pre_ok [101, 119] [32, 35] (M 27 0 + 1) hm1)
    have c1 := pk_ok (fc := 32) [101, 119] [35] (M 27 0 + 1) hm1
    have d1 := pk_ok (fc := 35) [101, 119, 32] [] (M 27 0 + 1) hm1
    have d1' : pkB 35 (tcM G (M 27 0 + 4)) = true := by rw [show M 27 0 + 4 = M 27 0 + 1 + (([101, 119, 32] : List Int).length : Int) from by show _ = M 27 0 + 1 + ((3 : Nat) : Int); omega]; exact d1
    have v1 : (fX9_figureBehind (fX9_needs (fX9_needs B0 101) 119) 32).1 = tcM G (M 27 0 + 4) - 48 := by
      rw [fb_v t1 (by decide) (by decide) p1 c1 (by rw [show M 27 0 + 1 + (([101, 119] : List Int).length : Int) + 1 = M 27 0 + 4 from by show M 27 0 + 1 + ((2 : Nat) : Int) + 1 = _; omega]; exact d1'), show M 27 0 + 1 + (([101, 119] : List Int).length : Int) + 1 = M 27 0 + 4 from by show M 27 0 + 1 + ((2 : Nat) : Int) + 1 = _; omega]
    have a1 : fX7_argument C 0 (M 27 0) 0 = (fX9_figureBehind (fX9_needs (fX9_needs B0 101) 119) 32).1 := by
      rw [arg_e C (by decide) (M 27 0) 0, v1, ← va_35 h (i := M 27 0 + 4) (by omega) (by omega) d1']
      rfl
    refine ⟨?_, fun hc => ?_, fun hc => ?_⟩
    · rw [a1]
      simp (disch := omega) only [up_n, up_e]
    · omega
    · omega
theorem ro_1 {C G M : Mem} (h : TX C G) (hM : tcM M = tcM G) (h28 : M 28 0 = 0) (h0 : 0 ≤ M 27 0) (k : Int) (hl : tcM G (M 27 0) = 102) : RdO C G M (fX9_readsOrder M k) 1 k := by
  have hh : fX9_here M = 102 := by rw [here_e, hM]; exact hl
  have hp : pkB 102 (tcM G (M 27 0)) = true := (pk_pl (by decide) (by decide)).mpr hl
  have eN : fX9_readsOrder M k = (mst (fX9_foldHere (mst (fX9_figureBehind (fX9_needsThree (mst (msf M 27 (M 27 0 + 1)) 6 k (fX9_here M)) 111 108 100) 32).2 6 (k + 1) (fX9_figureBehind (fX9_needsThree (mst (msf M 27 (M 27 0 + 1)) 6 k (fX9_here M)) 111 108 100) 32).1)).2 6 (k + 2) (fX9_foldHere (mst (fX9_figureBehind (fX9_needsThree (mst (msf M 27 (M 27 0 + 1)) 6 k (fX9_here M)) 111 108 100) 32).2 6 (k + 1) (fX9_figureBehind (fX9_needsThree (mst (msf M 27 (M 27 0 + 1)) 6 k (fX9_here M)) 111 108 100) 32).1)).1) := by
    unfold fX9_readsOrder
    rw [if_pos hh]
  generalize hB0 : mst (msf M 27 (M 27 0 + 1)) 6 k (fX9_here M) = B0 at eN
  have b0 : bq B0 = (0, M 27 0 + 1) := by rw [← hB0]; show (M 28 0, M 27 0 + 1) = _; rw [h28]
  have b0t : tcM B0 = tcM G := by rw [← hB0, tM, tS, hM]
  have b6 : B0 6 = up (M 6) k 102 := by rw [← hB0, r6M, r6S, hh]
  have hM : tcM B0 = tcM G := b0t
  have e1 : bq ((fX9_needsThree B0 111 108 100)) = stps (tcM G) [111, 108, 100] (0, M 27 0 + 1) := by
    simp only [bM, bT, bB, bq_needs, bq_figure, bq_fold, tN, tT, tF, tB, tH, tM, tS, hM, not_false_eq_true, Int.reduceEq, b0]
    rfl
  have t1 : tcM ((fX9_needsThree B0 111 108 100)) = tcM G := by simp only [tN, tT, tF, tB, tH, tM, tS, b0t]
  have e2 : bq ((mst (fX9_figureBehind (fX9_needsThree B0 111 108 100) 32).2 6 (k + 1) (fX9_figureBehind (fX9_needsThree B0 111 108 100) 32).1)) = stps (tcM G) [111, 108, 100, 32, 35] (0, M 27 0 + 1) := by
    simp only [bM, bT, bB, bq_needs, bq_figure, bq_fold, tN, tT, tF, tB, tH, tM, tS, hM, not_false_eq_true, Int.reduceEq, b0]
    rfl
  have t2 : tcM ((mst (fX9_figureBehind (fX9_needsThree B0 111 108 100) 32).2 6 (k + 1) (fX9_figureBehind (fX9_needsThree B0 111 108 100) 32).1)) = tcM G := by simp only [tN, tT, tF, tB, tH, tM, tS, b0t]
  have n6 : fX9_readsOrder M k 6 = up (up (up (M 6) k 102) (k + 1) (fX9_figureBehind (fX9_needsThree B0 111 108 100) 32).1) (k + 2) (fX9_foldHere (mst (fX9_figureBehind (fX9_needsThree B0 111 108 100) 32).2 6 (k + 1) (fX9_figureBehind (fX9_needsThree B0 111 108 100) 32).1)).1 := by
    rw [eN]
    simp only [r6N, r6T, r6F, r6B, r6H, r6M, b6]
  have bN : bq (fX9_readsOrder M k) = stps (tcM G) [111, 108, 100, 32, 35, 64] (0, M 27 0 + 1) := by
    rw [eN]
    simp only [bM, bT, bB, bq_needs, bq_figure, bq_fold, tN, tT, tF, tB, tH, tM, tS, hM, not_false_eq_true, Int.reduceEq, b0]
    rfl
  refine ⟨?_, fun z hz => ?_, ?_, fun hm => ?_⟩
  · rw [bN]
    exact bq_fin hp
  · rw [n6]
    simp (disch := omega) only [up_n]
  · rw [n6]
    simp (disch := omega) only [up_n, up_e]
    rfl
  · have hm0 : mtL (tcM G) [102, 111, 108, 100, 32, 35, 64] (M 27 0) = 7 := hm
    have hin := mt_in G [102, 111, 108, 100, 32, 35, 64] (M 27 0) (by decide) (by decide) hm0
    have hin2 : M 27 0 + 7 ≤ G 17 0 := hin
    have hm1 : mtL (tcM G) [111, 108, 100, 32, 35, 64] (M 27 0 + 1) = 6 := by
      have q : (if pkB 102 (tcM G (M 27 0)) = true then 1 + mtL (tcM G) [111, 108, 100, 32, 35, 64] (M 27 0 + 1) else 0) = 7 := hm0
      rw [if_pos hp] at q
      omega
    rw [n6]
    have p1 := e1.trans (pre_ok [111, 108, 100] [32, 35, 64] (M 27 0 + 1) hm1)
    have c1 := pk_ok (fc := 32) [111, 108, 100] [35, 64] (M 27 0 + 1) hm1
    have d1 := pk_ok (fc := 35) [111, 108, 100, 32] [64] (M 27 0 + 1) hm1
    have d1' : pkB 35 (tcM G (M 27 0 + 5)) = true := by rw [show M 27 0 + 5 = M 27 0 + 1 + (([111, 108, 100, 32] : List Int).length : Int) from by show _ = M 27 0 + 1 + ((4 : Nat) : Int); omega]; exact d1
    have v1 : (fX9_figureBehind (fX9_needsThree B0 111 108 100) 32).1 = tcM G (M 27 0 + 5) - 48 := by
      rw [fb_v t1 (by decide) (by decide) p1 c1 (by rw [show M 27 0 + 1 + (([111, 108, 100] : List Int).length : Int) + 1 = M 27 0 + 5 from by show M 27 0 + 1 + ((3 : Nat) : Int) + 1 = _; omega]; exact d1'), show M 27 0 + 1 + (([111, 108, 100] : List Int).length : Int) + 1 = M 27 0 + 5 from by show M 27 0 + 1 + ((3 : Nat) : Int) + 1 = _; omega]
    have a1 : fX7_argument C 1 (M 27 0) 0 = (fX9_figureBehind (fX9_needsThree B0 111 108 100) 32).1 := by
      rw [arg_e C (by decide) (M 27 0) 0, v1, ← va_35 h (i := M 27 0 + 5) (by omega) (by omega) d1']
      rfl
    have p2 := e2.trans (pre_ok [111, 108, 100, 32, 35] [64] (M 27 0 + 1) hm1)
    have d2 := pk_ok (fc := 64) [111, 108, 100, 32, 35] [] (M 27 0 + 1) hm1
    have d2' : pkB 64 (tcM G (M 27 0 + 6)) = true := by rw [show M 27 0 + 6 = M 27 0 + 1 + (([111, 108, 100, 32, 35] : List Int).length : Int) from by show _ = M 27 0 + 1 + ((5 : Nat) : Int); omega]; exact d2
    have v2 : (fX9_foldHere (mst (fX9_figureBehind (fX9_needsThree B0 111 108 100) 32).2 6 (k + 1) (fX9_figureBehind (fX9_needsThree B0 111 108 100) 32).1)).1 = fX9_foldOf (tcM G (M 27 0 + 6)) := by
      rw [fol_v, t2, show ((mst (fX9_figureBehind (fX9_needsThree B0 111 108 100) 32).2 6 (k + 1) (fX9_figureBehind (fX9_needsThree B0 111 108 100) 32).1)) 27 0 = M 27 0 + 6 from (congrArg Prod.snd p2).trans (by show M 27 0 + 1 + ((5 : Nat) : Int) = _; omega)]
    have a2 : fX7_argument C 1 (M 27 0) 1 = (fX9_foldHere (mst (fX9_figureBehind (fX9_needsThree B0 111 108 100) 32).2 6 (k + 1) (fX9_figureBehind (fX9_needsThree B0 111 108 100) 32).1)).1 := by
      rw [arg_e C (by decide) (M 27 0) 1, v2, ← va_64 h (i := M 27 0 + 6) (by omega) (by omega) d2']
      rfl
    refine ⟨?_, fun hc => ?_, fun hc => ?_⟩
    · rw [a1]
      simp (disch := omega) only [up_n, up_e]
    · rw [a2]
      simp (disch := omega) only [up_n, up_e]
    · omega
theorem ro_2 {C G M : Mem} (h : TX C G) (hM : tcM M = tcM G) (h28 : M 28 0 = 0) (h0 : 0 ≤ M 27 0) (k : Int) (hl : tcM G (M 27 0) = 111) : RdO C G M (fX9_readsOrder M k) 2 k := by
  have hh : fX9_here M = 111 := by rw [here_e, hM]; exact hl
  have hp : pkB 111 (tcM G (M 27 0)) = true := (pk_pl (by decide) (by decide)).mpr hl
  have eN : fX9_readsOrder M k = (mst (fX9_figureBehind (fX9_needsThree (mst (msf M 27 (M 27 0 + 1)) 6 k (fX9_here M)) 112 101 110) 32).2 6 (k + 1) (fX9_figureBehind (fX9_needsThree (mst (msf M 27 (M 27 0 + 1)) 6 k (fX9_here M)) 112 101 110) 32).1) := by
    unfold fX9_readsOrder
    rw [if_neg (show ¬ fX9_here M = 102 by rw [hh]; decide), if_neg (show ¬ fX9_here M = 108 by rw [hh]; decide), if_neg (show ¬ fX9_here M = 109 by rw [hh]; decide), if_neg (show ¬ fX9_here M = 110 by rw [hh]; decide), if_pos hh]
  generalize hB0 : mst (msf M 27 (M 27 0 + 1)) 6 k (fX9_here M) = B0 at eN
  have b0 : bq B0 = (0, M 27 0 + 1) := by rw [← hB0]; show (M 28 0, M 27 0 + 1) = _; rw [h28]
  have b0t : tcM B0 = tcM G := by rw [← hB0, tM, tS, hM]
  have b6 : B0 6 = up (M 6) k 111 := by rw [← hB0, r6M, r6S, hh]
  have hM : tcM B0 = tcM G := b0t
  have e1 : bq ((fX9_needsThree B0 112 101 110)) = stps (tcM G) [112, 101, 110] (0, M 27 0 + 1) := by
    simp only [bM, bT, bB, bq_needs, bq_figure, bq_fold, tN, tT, tF, tB, tH, tM, tS, hM, not_false_eq_true, Int.reduceEq, b0]
    rfl
  have t1 : tcM ((fX9_needsThree B0 112 101 110)) = tcM G := by simp only [tN, tT, tF, tB, tH, tM, tS, b0t]
  have n6 : fX9_readsOrder M k 6 = up (up (M 6) k 111) (k + 1) (fX9_figureBehind (fX9_needsThree B0 112 101 110) 32).1 := by
    rw [eN]
    simp only [r6N, r6T, r6F, r6B, r6H, r6M, b6]
  have bN : bq (fX9_readsOrder M k) = stps (tcM G) [112, 101, 110, 32, 35] (0, M 27 0 + 1) := by
    rw [eN]
    simp only [bM, bT, bB, bq_needs, bq_figure, bq_fold, tN, tT, tF, tB, tH, tM, tS, hM, not_false_eq_true, Int.reduceEq, b0]
    rfl
  refine ⟨?_, fun z hz => ?_, ?_, fun hm => ?_⟩
  · rw [bN]
    exact bq_fin hp
  · rw [n6]
    simp (disch := omega) only [up_n]
  · rw [n6]
    simp (disch := omega) only [up_n, up_e]
    rfl
  · have hm0 : mtL (tcM G) [111, 112, 101, 110, 32, 35] (M 27 0) = 6 := hm
    have hin := mt_in G [111, 112, 101, 110, 32, 35] (M 27 0) (by decide) (by decide) hm0
    have hin2 : M 27 0 + 6 ≤ G 17 0 := hin
    have hm1 : mtL (tcM G) [112, 101, 110, 32, 35] (M 27 0 + 1) = 5 := by
      have q : (if pkB 111 (tcM G (M 27 0)) = true then 1 + mtL (tcM G) [112, 101, 110, 32, 35] (M 27 0 + 1) else 0) = 6 := hm0
      rw [if_pos hp] at q
      omega
    rw [n6]
    have p1 := e1.trans (pre_ok [112, 101, 110] [32, 35] (M 27 0 + 1) hm1)
    have c1 := pk_ok (fc := 32) [112, 101, 110] [35] (M 27 0 + 1) hm1
    have d1 := pk_ok (fc := 35) [112, 101, 110, 32] [] (M 27 0 + 1) hm1
    have d1' : pkB 35 (tcM G (M 27 0 + 5)) = true := by rw [show M 27 0 + 5 = M 27 0 + 1 + (([112, 101, 110, 32] : List Int).length : Int) from by show _ = M 27 0 + 1 + ((4 : Nat) : Int); omega]; exact d1
    have v1 : (fX9_figureBehind (fX9_needsThree B0 112 101 110) 32).1 = tcM G (M 27 0 + 5) - 48 := by
      rw [fb_v t1 (by decide) (by decide) p1 c1 (by rw [show M 27 0 + 1 + (([112, 101, 110] : List Int).length : Int) + 1 = M 27 0 + 5 from by show M 27 0 + 1 + ((3 : Nat) : Int) + 1 = _; omega]; exact d1'), show M 27 0 + 1 + (([112, 101, 110] : List Int).length : Int) + 1 = M 27 0 + 5 from by show M 27 0 + 1 + ((3 : Nat) : Int) + 1 = _; omega]
    have a1 : fX7_argument C 2 (M 27 0) 0 = (fX9_figureBehind (fX9_needsThree B0 112 101 110) 32).1 := by
      rw [arg_e C (by decide) (M 27 0) 0, v1, ← va_35 h (i := M 27 0 + 5) (by omega) (by omega) d1']
      rfl
    refine ⟨?_, fun hc => ?_, fun hc => ?_⟩
    · rw [a1]
      simp (disch := omega) only [up_n, up_e]
    · omega
    · omega
theorem ro_3 {C G M : Mem} (h : TX C G) (hM : tcM M = tcM G) (h28 : M 28 0 = 0) (h0 : 0 ≤ M 27 0) (k : Int) (hl : tcM G (M 27 0) = 116) : RdO C G M (fX9_readsOrder M k) 3 k := by
  have hh : fX9_here M = 116 := by rw [here_e, hM]; exact hl
  have hp : pkB 116 (tcM G (M 27 0)) = true := (pk_pl (by decide) (by decide)).mpr hl
  have eN : fX9_readsOrder M k = (mst (fX9_figureBehind (fX9_needsThree (mst (msf M 27 (M 27 0 + 1)) 6 k (fX9_here M)) 97 107 101) 32).2 6 (k + 1) (fX9_figureBehind (fX9_needsThree (mst (msf M 27 (M 27 0 + 1)) 6 k (fX9_here M)) 97 107 101) 32).1) := by
    unfold fX9_readsOrder
    rw [if_neg (show ¬ fX9_here M = 102 by rw [hh]; decide), if_neg (show ¬ fX9_here M = 108 by rw [hh]; decide), if_neg (show ¬ fX9_here M = 109 by rw [hh]; decide), if_neg (show ¬ fX9_here M = 110 by rw [hh]; decide), if_neg (show ¬ fX9_here M = 111 by rw [hh]; decide), if_neg (show ¬ fX9_here M = 114 by rw [hh]; decide), if_neg (show ¬ fX9_here M = 115 by rw [hh]; decide), if_pos hh]
  generalize hB0 : mst (msf M 27 (M 27 0 + 1)) 6 k (fX9_here M) = B0 at eN
  have b0 : bq B0 = (0, M 27 0 + 1) := by rw [← hB0]; show (M 28 0, M 27 0 + 1) = _; rw [h28]
  have b0t : tcM B0 = tcM G := by rw [← hB0, tM, tS, hM]
  have b6 : B0 6 = up (M 6) k 116 := by rw [← hB0, r6M, r6S, hh]
  have hM : tcM B0 = tcM G := b0t
  have e1 : bq ((fX9_needsThree B0 97 107 101)) = stps (tcM G) [97, 107, 101] (0, M 27 0 + 1) := by
    simp only [bM, bT, bB, bq_needs, bq_figure, bq_fold, tN, tT, tF, tB, tH, tM, tS, hM, not_false_eq_true, Int.reduceEq, b0]
    rfl
  have t1 : tcM ((fX9_needsThree B0 97 107 101)) = tcM G := by simp only [tN, tT, tF, tB, tH, tM, tS, b0t]
  have n6 : fX9_readsOrder M k 6 = up (up (M 6) k 116) (k + 1) (fX9_figureBehind (fX9_needsThree B0 97 107 101) 32).1 := by
    rw [eN]
    simp only [r6N, r6T, r6F, r6B, r6H, r6M, b6]
  have bN : bq (fX9_readsOrder M k) = stps (tcM G) [97, 107, 101, 32, 35] (0, M 27 0 + 1) := by
    rw [eN]
    simp only [bM, bT, bB, bq_needs, bq_figure, bq_fold, tN, tT, tF, tB, tH, tM, tS, hM, not_false_eq_true, Int.reduceEq, b0]
    rfl
  refine ⟨?_, fun z hz => ?_, ?_, fun hm => ?_⟩
  · rw [bN]
    exact bq_fin hp
  · rw [n6]
    simp (disch := omega) only [up_n]
  · rw [n6]
    simp (disch := omega) only [up_n, up_e]
    rfl
  · have hm0 : mtL (tcM G) [116, 97, 107, 101, 32, 35] (M 27 0) = 6 := hm
    have hin := mt_in G [116, 97, 107, 101, 32, 35] (M 27 0) (by decide) (by decide) hm0
    have hin2 : M 27 0 + 6 ≤ G 17 0 := hin
    have hm1 : mtL (tcM G) [97, 107, 101, 32, 35] (M 27 0 + 1) = 5 := by
      have q : (if pkB 116 (tcM G (M 27 0)) = true then 1 + mtL (tcM G) [97, 107, 101, 32, 35] (M 27 0 + 1) else 0) = 6 := hm0
      rw [if_pos hp] at q
      omega
    rw [n6]
    have p1 := e1.trans (pre_ok [97, 107, 101] [32, 35] (M 27 0 + 1) hm1)
    have c1 := pk_ok (fc := 32) [97, 107, 101] [35] (M 27 0 + 1) hm1
    have d1 := pk_ok (fc := 35) [97, 107, 101, 32] [] (M 27 0 + 1) hm1
    have d1' : pkB 35 (tcM G (M 27 0 + 5)) = true := by rw [show M 27 0 + 5 = M 27 0 + 1 + (([97, 107, 101, 32] : List Int).length : Int) from by show _ = M 27 0 + 1 + ((4 : Nat) : Int); omega]; exact d1
    have v1 : (fX9_figureBehind (fX9_needsThree B0 97 107 101) 32).1 = tcM G (M 27 0 + 5) - 48 := by
      rw [fb_v t1 (by decide) (by decide) p1 c1 (by rw [show M 27 0 + 1 + (([97, 107, 101] : List Int).length : Int) + 1 = M 27 0 + 5 from by show M 27 0 + 1 + ((3 : Nat) : Int) + 1 = _; omega]; exact d1'), show M 27 0 + 1 + (([97, 107, 101] : List Int).length : Int) + 1 = M 27 0 + 5 from by show M 27 0 + 1 + ((3 : Nat) : Int) + 1 = _; omega]
    have a1 : fX7_argument C 3 (M 27 0) 0 = (fX9_figureBehind (fX9_needsThree B0 97 107 101) 32).1 := by
      rw [arg_e C (by decide) (M 27 0) 0, v1, ← va_35 h (i := M 27 0 + 5) (by omega) (by omega) d1']
      rfl
    refine ⟨?_, fun hc => ?_, fun hc => ?_⟩
    · rw [a1]
      simp (disch := omega) only [up_n, up_e]
    · omega
    · omega
theorem ro_4 {C G M : Mem} (h : TX C G) (hM : tcM M = tcM G) (h28 : M 28 0 = 0) (h0 : 0 ≤ M 27 0) (k : Int) (hl : tcM G (M 27 0) = 119) : RdO C G M (fX9_readsOrder M k) 4 k := by
  have hh : fX9_here M = 119 := by rw [here_e, hM]; exact hl
  have hp : pkB 119 (tcM G (M 27 0)) = true := (pk_pl (by decide) (by decide)).mpr hl
  have eN : fX9_readsOrder M k = (mst (fX9_figureBehind (fX9_needsThree (mst (msf M 27 (M 27 0 + 1)) 6 k (fX9_here M)) 97 115 104) 32).2 6 (k + 1) (fX9_figureBehind (fX9_needsThree (mst (msf M 27 (M 27 0 + 1)) 6 k (fX9_here M)) 97 115 104) 32).1) := by
    unfold fX9_readsOrder
    rw [if_neg (show ¬ fX9_here M = 102 by rw [hh]; decide), if_neg (show ¬ fX9_here M = 108 by rw [hh]; decide), if_neg (show ¬ fX9_here M = 109 by rw [hh]; decide), if_neg (show ¬ fX9_here M = 110 by rw [hh]; decide), if_neg (show ¬ fX9_here M = 111 by rw [hh]; decide), if_neg (show ¬ fX9_here M = 114 by rw [hh]; decide), if_neg (show ¬ fX9_here M = 115 by rw [hh]; decide), if_neg (show ¬ fX9_here M = 116 by rw [hh]; decide), if_pos hh]
  generalize hB0 : mst (msf M 27 (M 27 0 + 1)) 6 k (fX9_here M) = B0 at eN
  have b0 : bq B0 = (0, M 27 0 + 1) := by rw [← hB0]; show (M 28 0, M 27 0 + 1) = _; rw [h28]
  have b0t : tcM B0 = tcM G := by rw [← hB0, tM, tS, hM]
  have b6 : B0 6 = up (M 6) k 119 := by rw [← hB0, r6M, r6S, hh]
  have hM : tcM B0 = tcM G := b0t
  have e1 : bq ((fX9_needsThree B0 97 115 104)) = stps (tcM G) [97, 115, 104] (0, M 27 0 + 1) := by
    simp only [bM, bT, bB, bq_needs, bq_figure, bq_fold, tN, tT, tF, tB, tH, tM, tS, hM, not_false_eq_true, Int.reduceEq, b0]
    rfl
  have t1 : tcM ((fX9_needsThree B0 97 115 104)) = tcM G := by simp only [tN, tT, tF, tB, tH, tM, tS, b0t]
  have n6 : fX9_readsOrder M k 6 = up (up (M 6) k 119) (k + 1) (fX9_figureBehind (fX9_needsThree B0 97 115 104) 32).1 := by
    rw [eN]
    simp only [r6N, r6T, r6F, r6B, r6H, r6M, b6]
  have bN : bq (fX9_readsOrder M k) = stps (tcM G) [97, 115, 104, 32, 35] (0, M 27 0 + 1) := by
    rw [eN]
    simp only [bM, bT, bB, bq_needs, bq_figure, bq_fold, tN, tT, tF, tB, tH, tM, tS, hM, not_false_eq_true, Int.reduceEq, b0]
    rfl
  refine ⟨?_, fun z hz => ?_, ?_, fun hm => ?_⟩
  · rw [bN]
    exact bq_fin hp
  · rw [n6]
    simp (disch := omega) only [up_n]
  · rw [n6]
    simp (disch := omega) only [up_n, up_e]
    rfl
  · have hm0 : mtL (tcM G) [119, 97, 115, 104, 32, 35] (M 27 0) = 6 := hm
    have hin := mt_in G [119, 97, 115, 104, 32, 35] (M 27 0) (by decide) (by decide) hm0
    have hin2 : M 27 0 + 6 ≤ G 17 0 := hin
    have hm1 : mtL (tcM G) [97, 115, 104, 32, 35] (M 27 0 + 1) = 5 := by
      have q : (if pkB 119 (tcM G (M 27 0)) = true then 1 + mtL (tcM G) [97, 115, 104, 32, 35] (M 27 0 + 1) else 0) = 6 := hm0
      rw [if_pos hp] at q
      omega
    rw [n6]
    have p1 := e1.trans (pre_ok [97, 115, 104] [32, 35] (M 27 0 + 1) hm1)
    have c1 := pk_ok (fc := 32) [97, 115, 104] [35] (M 27 0 + 1) hm1
    have d1 := pk_ok (fc := 35) [97, 115, 104, 32] [] (M 27 0 + 1) hm1
    have d1' : pkB 35 (tcM G (M 27 0 + 5)) = true := by rw [show M 27 0 + 5 = M 27 0 + 1 + (([97, 115, 104, 32] : List Int).length : Int) from by show _ = M 27 0 + 1 + ((4 : Nat) : Int); omega]; exact d1
    have v1 : (fX9_figureBehind (fX9_needsThree B0 97 115 104) 32).1 = tcM G (M 27 0 + 5) - 48 := by
      rw [fb_v t1 (by decide) (by decide) p1 c1 (by rw [show M 27 0 + 1 + (([97, 115, 104] : List Int).length : Int) + 1 = M 27 0 + 5 from by show M 27 0 + 1 + ((3 : Nat) : Int) + 1 = _; omega]; exact d1'), show M 27 0 + 1 + (([97, 115, 104] : List Int).length : Int) + 1 = M 27 0 + 5 from by show M 27 0 + 1 + ((3 : Nat) : Int) + 1 = _; omega]
    have a1 : fX7_argument C 4 (M 27 0) 0 = (fX9_figureBehind (fX9_needsThree B0 97 115 104) 32).1 := by
      rw [arg_e C (by decide) (M 27 0) 0, v1, ← va_35 h (i := M 27 0 + 5) (by omega) (by omega) d1']
      rfl
    refine ⟨?_, fun hc => ?_, fun hc => ?_⟩
    · rw [a1]
      simp (disch := omega) only [up_n, up_e]
    · omega
    · omega
theorem ro_5 {C G M : Mem} (h : TX C G) (hM : tcM M = tcM G) (h28 : M 28 0 = 0) (h0 : 0 ≤ M 27 0) (k : Int) (hl : tcM G (M 27 0) = 114) : RdO C G M (fX9_readsOrder M k) 5 k := by
  have hh : fX9_here M = 114 := by rw [here_e, hM]; exact hl
  have hp : pkB 114 (tcM G (M 27 0)) = true := (pk_pl (by decide) (by decide)).mpr hl
  have eN : fX9_readsOrder M k = (mst (fX9_figureBehind (fX9_needsThree (mst (msf M 27 (M 27 0 + 1)) 6 k (fX9_here M)) 101 97 100) 32).2 6 (k + 1) (fX9_figureBehind (fX9_needsThree (mst (msf M 27 (M 27 0 + 1)) 6 k (fX9_here M)) 101 97 100) 32).1) := by
    unfold fX9_readsOrder
    rw [if_neg (show ¬ fX9_here M = 102 by rw [hh]; decide), if_neg (show ¬ fX9_here M = 108 by rw [hh]; decide), if_neg (show ¬ fX9_here M = 109 by rw [hh]; decide), if_neg (show ¬ fX9_here M = 110 by rw [hh]; decide), if_neg (show ¬ fX9_here M = 111 by rw [hh]; decide), if_pos hh]
  generalize hB0 : mst (msf M 27 (M 27 0 + 1)) 6 k (fX9_here M) = B0 at eN
  have b0 : bq B0 = (0, M 27 0 + 1) := by rw [← hB0]; show (M 28 0, M 27 0 + 1) = _; rw [h28]
  have b0t : tcM B0 = tcM G := by rw [← hB0, tM, tS, hM]
  have b6 : B0 6 = up (M 6) k 114 := by rw [← hB0, r6M, r6S, hh]
  have hM : tcM B0 = tcM G := b0t
  have e1 : bq ((fX9_needsThree B0 101 97 100)) = stps (tcM G) [101, 97, 100] (0, M 27 0 + 1) := by
    simp only [bM, bT, bB, bq_needs, bq_figure, bq_fold, tN, tT, tF, tB, tH, tM, tS, hM, not_false_eq_true, Int.reduceEq, b0]
    rfl
  have t1 : tcM ((fX9_needsThree B0 101 97 100)) = tcM G := by simp only [tN, tT, tF, tB, tH, tM, tS, b0t]
  have n6 : fX9_readsOrder M k 6 = up (up (M 6) k 114) (k + 1) (fX9_figureBehind (fX9_needsThree B0 101 97 100) 32).1 := by
    rw [eN]
    simp only [r6N, r6T, r6F, r6B, r6H, r6M, b6]
  have bN : bq (fX9_readsOrder M k) = stps (tcM G) [101, 97, 100, 32, 35] (0, M 27 0 + 1) := by
    rw [eN]
    simp only [bM, bT, bB, bq_needs, bq_figure, bq_fold, tN, tT, tF, tB, tH, tM, tS, hM, not_false_eq_true, Int.reduceEq, b0]
    rfl
  refine ⟨?_, fun z hz => ?_, ?_, fun hm => ?_⟩
  · rw [bN]
    exact bq_fin hp
  · rw [n6]
    simp (disch := omega) only [up_n]
  · rw [n6]
    simp (disch := omega) only [up_n, up_e]
    rfl
  · have hm0 : mtL (tcM G) [114, 101, 97, 100, 32, 35] (M 27 0) = 6 := hm
    have hin := mt_in G [114, 101, 97, 100, 32, 35] (M 27 0) (by decide) (by decide) hm0
    have hin2 : M 27 0 + 6 ≤ G 17 0 := hin
    have hm1 : mtL (tcM G) [101, 97, 100, 32, 35] (M 27 0 + 1) = 5 := by
      have q : (if pkB 114 (tcM G (M 27 0)) = true then 1 + mtL (tcM G) [101, 97, 100, 32, 35] (M 27 0 + 1) else 0) = 6 := hm0
      rw [if_pos hp] at q
      omega
    rw [n6]
    have p1 := e1.trans (pre_ok [101, 97, 100] [32, 35] (M 27 0 + 1) hm1)
    have c1 := pk_ok (fc := 32) [101, 97, 100] [35] (M 27 0 + 1) hm1
    have d1 := pk_ok (fc := 35) [101, 97, 100, 32] [] (M 27 0 + 1) hm1
    have d1' : pkB 35 (tcM G (M 27 0 + 5)) = true := by rw [show M 27 0 + 5 = M 27 0 + 1 + (([101, 97, 100, 32] : List Int).length : Int) from by show _ = M 27 0 + 1 + ((4 : Nat) : Int); omega]; exact d1
    have v1 : (fX9_figureBehind (fX9_needsThree B0 101 97 100) 32).1 = tcM G (M 27 0 + 5) - 48 := by
      rw [fb_v t1 (by decide) (by decide) p1 c1 (by rw [show M 27 0 + 1 + (([101, 97, 100] : List Int).length : Int) + 1 = M 27 0 + 5 from by show M 27 0 + 1 + ((3 : Nat) : Int) + 1 = _; omega]; exact d1'), show M 27 0 + 1 + (([101, 97, 100] : List Int).length : Int) + 1 = M 27 0 + 5 from by show M 27 0 + 1 + ((3 : Nat) : Int) + 1 = _; omega]
    have a1 : fX7_argument C 5 (M 27 0) 0 = (fX9_figureBehind (fX9_needsThree B0 101 97 100) 32).1 := by
      rw [arg_e C (by decide) (M 27 0) 0, v1, ← va_35 h (i := M 27 0 + 5) (by omega) (by omega) d1']
      rfl
    refine ⟨?_, fun hc => ?_, fun hc => ?_⟩
    · rw [a1]
      simp (disch := omega) only [up_n, up_e]
    · omega
    · omega
theorem ro_6 {C G M : Mem} (h : TX C G) (hM : tcM M = tcM G) (h28 : M 28 0 = 0) (h0 : 0 ≤ M 27 0) (k : Int) (hl : tcM G (M 27 0) = 108) : RdO C G M (fX9_readsOrder M k) 6 k := by
  have hh : fX9_here M = 108 := by rw [here_e, hM]; exact hl
  have hp : pkB 108 (tcM G (M 27 0)) = true := (pk_pl (by decide) (by decide)).mpr hl
  have eN : fX9_readsOrder M k = (mst (fX9_figureBehind (mst (fX9_figureBehind (fX9_needs (fX9_needs (mst (msf M 27 (M 27 0 + 1)) 6 k (fX9_here M)) 97) 121) 32).2 6 (k + 1) (fX9_figureBehind (fX9_needs (fX9_needs (mst (msf M 27 (M 27 0 + 1)) 6 k (fX9_here M)) 97) 121) 32).1) 32).2 6 (k + 2) (fX9_figureBehind (mst (fX9_figureBehind (fX9_needs (fX9_needs (mst (msf M 27 (M 27 0 + 1)) 6 k (fX9_here M)) 97) 121) 32).2 6 (k + 1) (fX9_figureBehind (fX9_needs (fX9_needs (mst (msf M 27 (M 27 0 + 1)) 6 k (fX9_here M)) 97) 121) 32).1) 32).1) := by
    unfold fX9_readsOrder
    rw [if_neg (show ¬ fX9_here M = 102 by rw [hh]; decide), if_pos hh]
  generalize hB0 : mst (msf M 27 (M 27 0 + 1)) 6 k (fX9_here M) = B0 at eN
  have b0 : bq B0 = (0, M 27 0 + 1) := by rw [← hB0]; show (M 28 0, M 27 0 + 1) = _; rw [h28]
  have b0t : tcM B0 = tcM G := by rw [← hB0, tM, tS, hM]
  have b6 : B0 6 = up (M 6) k 108 := by rw [← hB0, r6M, r6S, hh]
  have hM : tcM B0 = tcM G := b0t
  have e1 : bq ((fX9_needs (fX9_needs B0 97) 121)) = stps (tcM G) [97, 121] (0, M 27 0 + 1) := by
    simp only [bM, bT, bB, bq_needs, bq_figure, bq_fold, tN, tT, tF, tB, tH, tM, tS, hM, not_false_eq_true, Int.reduceEq, b0]
    rfl
  have t1 : tcM ((fX9_needs (fX9_needs B0 97) 121)) = tcM G := by simp only [tN, tT, tF, tB, tH, tM, tS, b0t]
  have e2 : bq ((mst (fX9_figureBehind (fX9_needs (fX9_needs B0 97) 121) 32).2 6 (k + 1) (fX9_figureBehind (fX9_needs (fX9_needs B0 97) 121) 32).1)) = stps (tcM G) [97, 121, 32, 35] (0, M 27 0 + 1) := by
    simp only [bM, bT, bB, bq_needs, bq_figure, bq_fold, tN, tT, tF, tB, tH, tM, tS, hM, not_false_eq_true, Int.reduceEq, b0]
    rfl
  have t2 : tcM ((mst (fX9_figureBehind (fX9_needs (fX9_needs B0 97) 121) 32).2 6 (k + 1) (fX9_figureBehind (fX9_needs (fX9_needs B0 97) 121) 32).1)) = tcM G := by simp only [tN, tT, tF, tB, tH, tM, tS, b0t]
  have n6 : fX9_readsOrder M k 6 = up (up (up (M 6) k 108) (k + 1) (fX9_figureBehind (fX9_needs (fX9_needs B0 97) 121) 32).1) (k + 2) (fX9_figureBehind (mst (fX9_figureBehind (fX9_needs (fX9_needs B0 97) 121) 32).2 6 (k + 1) (fX9_figureBehind (fX9_needs (fX9_needs B0 97) 121) 32).1) 32).1 := by
    rw [eN]
    simp only [r6N, r6T, r6F, r6B, r6H, r6M, b6]
  have bN : bq (fX9_readsOrder M k) = stps (tcM G) [97, 121, 32, 35, 32, 35] (0, M 27 0 + 1) := by
    rw [eN]
    simp only [bM, bT, bB, bq_needs, bq_figure, bq_fold, tN, tT, tF, tB, tH, tM, tS, hM, not_false_eq_true, Int.reduceEq, b0]
    rfl
  refine ⟨?_, fun z hz => ?_, ?_, fun hm => ?_⟩
  · rw [bN]
    exact bq_fin hp
  · rw [n6]
    simp (disch := omega) only [up_n]
  · rw [n6]
    simp (disch := omega) only [up_n, up_e]
    rfl
  · have hm0 : mtL (tcM G) [108, 97, 121, 32, 35, 32, 35] (M 27 0) = 7 := hm
    have hin := mt_in G [108, 97, 121, 32, 35, 32, 35] (M 27 0) (by decide) (by decide) hm0
    have hin2 : M 27 0 + 7 ≤ G 17 0 := hin
    have hm1 : mtL (tcM G) [97, 121, 32, 35, 32, 35] (M 27 0 + 1) = 6 := by
      have q : (if pkB 108 (tcM G (M 27 0)) = true then 1 + mtL (tcM G) [97, 121, 32, 35, 32, 35] (M 27 0 + 1) else 0) = 7 := hm0
      rw [if_pos hp] at q
      omega
    rw [n6]
    have p1 := e1.trans (pre_ok [97, 121] [32, 35, 32, 35] (M 27 0 + 1) hm1)
    have c1 := pk_ok (fc := 32) [97, 121] [35, 32, 35] (M 27 0 + 1) hm1
    have d1 := pk_ok (fc := 35) [97, 121, 32] [32, 35] (M 27 0 + 1) hm1
    have d1' : pkB 35 (tcM G (M 27 0 + 4)) = true := by rw [show M 27 0 + 4 = M 27 0 + 1 + (([97, 121, 32] : List Int).length : Int) from by show _ = M 27 0 + 1 + ((3 : Nat) : Int); omega]; exact d1
    have v1 : (fX9_figureBehind (fX9_needs (fX9_needs B0 97) 121) 32).1 = tcM G (M 27 0 + 4) - 48 := by
      rw [fb_v t1 (by decide) (by decide) p1 c1 (by rw [show M 27 0 + 1 + (([97, 121] : List Int).length : Int) + 1 = M 27 0 + 4 from by show M 27 0 + 1 + ((2 : Nat) : Int) + 1 = _; omega]; exact d1'), show M 27 0 + 1 + (([97, 121] : List Int).length : Int) + 1 = M 27 0 + 4 from by show M 27 0 + 1 + ((2 : Nat) : Int) + 1 = _; omega]
    have a1 : fX7_argument C 6 (M 27 0) 0 = (fX9_figureBehind (fX9_needs (fX9_needs B0 97) 121) 32).1 := by
      rw [arg_e C (by decide) (M 27 0) 0, v1, ← va_35 h (i := M 27 0 + 4) (by omega) (by omega) d1']
      rfl
    have p2 := e2.trans (pre_ok [97, 121, 32, 35] [32, 35] (M 27 0 + 1) hm1)
    have c2 := pk_ok (fc := 32) [97, 121, 32, 35] [35] (M 27 0 + 1) hm1
    have d2 := pk_ok (fc := 35) [97, 121, 32, 35, 32] [] (M 27 0 + 1) hm1
    have d2' : pkB 35 (tcM G (M 27 0 + 6)) = true := by rw [show M 27 0 + 6 = M 27 0 + 1 + (([97, 121, 32, 35, 32] : List Int).length : Int) from by show _ = M 27 0 + 1 + ((5 : Nat) : Int); omega]; exact d2
    have v2 : (fX9_figureBehind (mst (fX9_figureBehind (fX9_needs (fX9_needs B0 97) 121) 32).2 6 (k + 1) (fX9_figureBehind (fX9_needs (fX9_needs B0 97) 121) 32).1) 32).1 = tcM G (M 27 0 + 6) - 48 := by
      rw [fb_v t2 (by decide) (by decide) p2 c2 (by rw [show M 27 0 + 1 + (([97, 121, 32, 35] : List Int).length : Int) + 1 = M 27 0 + 6 from by show M 27 0 + 1 + ((4 : Nat) : Int) + 1 = _; omega]; exact d2'), show M 27 0 + 1 + (([97, 121, 32, 35] : List Int).length : Int) + 1 = M 27 0 + 6 from by show M 27 0 + 1 + ((4 : Nat) : Int) + 1 = _; omega]
    have a2 : fX7_argument C 6 (M 27 0) 1 = (fX9_figureBehind (mst (fX9_figureBehind (fX9_needs (fX9_needs B0 97) 121) 32).2 6 (k + 1) (fX9_figureBehind (fX9_needs (fX9_needs B0 97) 121) 32).1) 32).1 := by
      rw [arg_e C (by decide) (M 27 0) 1, v2, ← va_35 h (i := M 27 0 + 6) (by omega) (by omega) d2']
      rfl
    refine ⟨?_, fun hc => ?_, fun hc => ?_⟩
    · rw [a1]
      simp (disch := omega) only [up_n, up_e]
    · rw [a2]
      simp (disch := omega) only [up_n, up_e]
    · omega
theorem ro_7 {C G M : Mem} (h : TX C G) (hM : tcM M = tcM G) (h28 : M 28 0 = 0) (h0 : 0 ≤ M 27 0) (k : Int) (hl : tcM G (M 27 0) = 109) : RdO C G M (fX9_readsOrder M k) 7 k := by
  have hh : fX9_here M = 109 := by rw [here_e, hM]; exact hl
  have hp : pkB 109 (tcM G (M 27 0)) = true := (pk_pl (by decide) (by decide)).mpr hl
  have eN : fX9_readsOrder M k = (mst (fX9_figure (mst (fX9_figureBehind (mst (fX9_figureBehind (fX9_needsThree (mst (msf M 27 (M 27 0 + 1)) 6 k (fX9_here M)) 111 118 101) 32).2 6 (k + 1) (fX9_figureBehind (fX9_needsThree (mst (msf M 27 (M 27 0 + 1)) 6 k (fX9_here M)) 111 118 101) 32).1) 32).2 6 (k + 2) (fX9_figureBehind (mst (fX9_figureBehind (fX9_needsThree (mst (msf M 27 (M 27 0 + 1)) 6 k (fX9_here M)) 111 118 101) 32).2 6 (k + 1) (fX9_figureBehind (fX9_needsThree (mst (msf M 27 (M 27 0 + 1)) 6 k (fX9_here M)) 111 118 101) 32).1) 32).1)).2 6 (k + 3) (fX9_figure (mst (fX9_figureBehind (mst (fX9_figureBehind (fX9_needsThree (mst (msf M 27 (M 27 0 + 1)) 6 k (fX9_here M)) 111 118 101) 32).2 6 (k + 1) (fX9_figureBehind (fX9_needsThree (mst (msf M 27 (M 27 0 + 1)) 6 k (fX9_here M)) 111 118 101) 32).1) 32).2 6 (k + 2) (fX9_figureBehind (mst (fX9_figureBehind (fX9_needsThree (mst (msf M 27 (M 27 0 + 1)) 6 k (fX9_here M)) 111 118 101) 32).2 6 (k + 1) (fX9_figureBehind (fX9_needsThree (mst (msf M 27 (M 27 0 + 1)) 6 k (fX9_here M)) 111 118 101) 32).1) 32).1)).1) := by
    unfold fX9_readsOrder
    rw [if_neg (show ¬ fX9_here M = 102 by rw [hh]; decide), if_neg (show ¬ fX9_here M = 108 by rw [hh]; decide), if_pos hh]
  generalize hB0 : mst (msf M 27 (M 27 0 + 1)) 6 k (fX9_here M) = B0 at eN
  have b0 : bq B0 = (0, M 27 0 + 1) := by rw [← hB0]; show (M 28 0, M 27 0 + 1) = _; rw [h28]
  have b0t : tcM B0 = tcM G := by rw [← hB0, tM, tS, hM]
  have b6 : B0 6 = up (M 6) k 109 := by rw [← hB0, r6M, r6S, hh]
  have hM : tcM B0 = tcM G := b0t
  have e1 : bq ((fX9_needsThree B0 111 118 101)) = stps (tcM G) [111, 118, 101] (0, M 27 0 + 1) := by
    simp only [bM, bT, bB, bq_needs, bq_figure, bq_fold, tN, tT, tF, tB, tH, tM, tS, hM, not_false_eq_true, Int.reduceEq, b0]
    rfl
  have t1 : tcM ((fX9_needsThree B0 111 118 101)) = tcM G := by simp only [tN, tT, tF, tB, tH, tM, tS, b0t]
  have e2 : bq ((mst (fX9_figureBehind (fX9_needsThree B0 111 118 101) 32).2 6 (k + 1) (fX9_figureBehind (fX9_needsThree B0 111 118 101) 32).1)) = stps (tcM G) [111, 118, 101, 32, 35] (0, M 27 0 + 1) := by
    simp only [bM, bT, bB, bq_needs, bq_figure, bq_fold, tN, tT, tF, tB, tH, tM, tS, hM, not_false_eq_true, Int.reduceEq, b0]
    rfl
  have t2 : tcM ((mst (fX9_figureBehind (fX9_needsThree B0 111 118 101) 32).2 6 (k + 1) (fX9_figureBehind (fX9_needsThree B0 111 118 101) 32).1)) = tcM G := by simp only [tN, tT, tF, tB, tH, tM, tS, b0t]
  have e3 : bq ((mst (fX9_figureBehind (mst (fX9_figureBehind (fX9_needsThree B0 111 118 101) 32).2 6 (k + 1) (fX9_figureBehind (fX9_needsThree B0 111 118 101) 32).1) 32).2 6 (k + 2) (fX9_figureBehind (mst (fX9_figureBehind (fX9_needsThree B0 111 118 101) 32).2 6 (k + 1) (fX9_figureBehind (fX9_needsThree B0 111 118 101) 32).1) 32).1)) = stps (tcM G) [111, 118, 101, 32, 35, 32, 35] (0, M 27 0 + 1) := by
    simp only [bM, bT, bB, bq_needs, bq_figure, bq_fold, tN, tT, tF, tB, tH, tM, tS, hM, not_false_eq_true, Int.reduceEq, b0]
    rfl
  have t3 : tcM ((mst (fX9_figureBehind (mst (fX9_figureBehind (fX9_needsThree B0 111 118 101) 32).2 6 (k + 1) (fX9_figureBehind (fX9_needsThree B0 111 118 101) 32).1) 32).2 6 (k + 2) (fX9_figureBehind (mst (fX9_figureBehind (fX9_needsThree B0 111 118 101) 32).2 6 (k + 1) (fX9_figureBehind (fX9_needsThree B0 111 118 101) 32).1) 32).1)) = tcM G := by simp only [tN, tT, tF, tB, tH, tM, tS, b0t]
  have n6 : fX9_readsOrder M k 6 = up (up (up (up (M 6) k 109) (k + 1) (fX9_figureBehind (fX9_needsThree B0 111 118 101) 32).1) (k + 2) (fX9_figureBehind (mst (fX9_figureBehind (fX9_needsThree B0 111 118 101) 32).2 6 (k + 1) (fX9_figureBehind (fX9_needsThree B0 111 118 101) 32).1) 32).1) (k + 3) (fX9_figure (mst (fX9_figureBehind (mst (fX9_figureBehind (fX9_needsThree B0 111 118 101) 32).2 6 (k + 1) (fX9_figureBehind (fX9_needsThree B0 111 118 101) 32).1) 32).2 6 (k + 2) (fX9_figureBehind (mst (fX9_figureBehind (fX9_needsThree B0 111 118 101) 32).2 6 (k + 1) (fX9_figureBehind (fX9_needsThree B0 111 118 101) 32).1) 32).1)).1 := by
    rw [eN]
    simp only [r6N, r6T, r6F, r6B, r6H, r6M, b6]
  have bN : bq (fX9_readsOrder M k) = stps (tcM G) [111, 118, 101, 32, 35, 32, 35, 35] (0, M 27 0 + 1) := by
    rw [eN]
    simp only [bM, bT, bB, bq_needs, bq_figure, bq_fold, tN, tT, tF, tB, tH, tM, tS, hM, not_false_eq_true, Int.reduceEq, b0]
    rfl
  refine ⟨?_, fun z hz => ?_, ?_, fun hm => ?_⟩
  · rw [bN]
    exact bq_fin hp
  · rw [n6]
    simp (disch := omega) only [up_n]
  · rw [n6]
    simp (disch := omega) only [up_n, up_e]
    rfl
  · have hm0 : mtL (tcM G) [109, 111, 118, 101, 32, 35, 32, 35, 35] (M 27 0) = 9 := hm
    have hin := mt_in G [109, 111, 118, 101, 32, 35, 32, 35, 35] (M 27 0) (by decide) (by decide) hm0
    have hin2 : M 27 0 + 9 ≤ G 17 0 := hin
    have hm1 : mtL (tcM G) [111, 118, 101, 32, 35, 32, 35, 35] (M 27 0 + 1) = 8 := by
      have q : (if pkB 109 (tcM G (M 27 0)) = true then 1 + mtL (tcM G) [111, 118, 101, 32, 35, 32, 35, 35] (M 27 0 + 1) else 0) = 9 := hm0
      rw [if_pos hp] at q
      omega
    rw [n6]
    have p1 := e1.trans (pre_ok [111, 118, 101] [32, 35, 32, 35, 35] (M 27 0 + 1) hm1)
    have c1 := pk_ok (fc := 32) [111, 118, 101] [35, 32, 35, 35] (M 27 0 + 1) hm1
    have d1 := pk_ok (fc := 35) [111, 118, 101, 32] [32, 35, 35] (M 27 0 + 1) hm1
    have d1' : pkB 35 (tcM G (M 27 0 + 5)) = true := by rw [show M 27 0 + 5 = M 27 0 + 1 + (([111, 118, 101, 32] : List Int).length : Int) from by show _ = M 27 0 + 1 + ((4 : Nat) : Int); omega]; exact d1
    have v1 : (fX9_figureBehind (fX9_needsThree B0 111 118 101) 32).1 = tcM G (M 27 0 + 5) - 48 := by
      rw [fb_v t1 (by decide) (by decide) p1 c1 (by rw [show M 27 0 + 1 + (([111, 118, 101] : List Int).length : Int) + 1 = M 27 0 + 5 from by show M 27 0 + 1 + ((3 : Nat) : Int) + 1 = _; omega]; exact d1'), show M 27 0 + 1 + (([111, 118, 101] : List Int).length : Int) + 1 = M 27 0 + 5 from by show M 27 0 + 1 + ((3 : Nat) : Int) + 1 = _; omega]
    have a1 : fX7_argument C 7 (M 27 0) 0 = (fX9_figureBehind (fX9_needsThree B0 111 118 101) 32).1 := by
      rw [arg_e C (by decide) (M 27 0) 0, v1, ← va_35 h (i := M 27 0 + 5) (by omega) (by omega) d1']
      rfl
    have p2 := e2.trans (pre_ok [111, 118, 101, 32, 35] [32, 35, 35] (M 27 0 + 1) hm1)
    have c2 := pk_ok (fc := 32) [111, 118, 101, 32, 35] [35, 35] (M 27 0 + 1) hm1
    have d2 := pk_ok (fc := 35) [111, 118, 101, 32, 35, 32] [35] (M 27 0 + 1) hm1
    have d2' : pkB 35 (tcM G (M 27 0 + 7)) = true := by rw [show M 27 0 + 7 = M 27 0 + 1 + (([111, 118, 101, 32, 35, 32] : List Int).length : Int) from by show _ = M 27 0 + 1 + ((6 : Nat) : Int); omega]; exact d2
    have v2 : (fX9_figureBehind (mst (fX9_figureBehind (fX9_needsThree B0 111 118 101) 32).2 6 (k + 1) (fX9_figureBehind (fX9_needsThree B0 111 118 101) 32).1) 32).1 = tcM G (M 27 0 + 7) - 48 := by
      rw [fb_v t2 (by decide) (by decide) p2 c2 (by rw [show M 27 0 + 1 + (([111, 118, 101, 32, 35] : List Int).length : Int) + 1 = M 27 0 + 7 from by show M 27 0 + 1 + ((5 : Nat) : Int) + 1 = _; omega]; exact d2'), show M 27 0 + 1 + (([111, 118, 101, 32, 35] : List Int).length : Int) + 1 = M 27 0 + 7 from by show M 27 0 + 1 + ((5 : Nat) : Int) + 1 = _; omega]
    have a2 : fX7_argument C 7 (M 27 0) 1 = (fX9_figureBehind (mst (fX9_figureBehind (fX9_needsThree B0 111 118 101) 32).2 6 (k + 1) (fX9_figureBehind (fX9_needsThree B0 111 118 101) 32).1) 32).1 := by
      rw [arg_e C (by decide) (M 27 0) 1, v2, ← va_35 h (i := M 27 0 + 7) (by omega) (by omega) d2']
      rfl
    have p3 := e3.trans (pre_ok [111, 118, 101, 32, 35, 32, 35] [35] (M 27 0 + 1) hm1)
    have d3 := pk_ok (fc := 35) [111, 118, 101, 32, 35, 32, 35] [] (M 27 0 + 1) hm1
    have d3' : pkB 35 (tcM G (M 27 0 + 8)) = true := by rw [show M 27 0 + 8 = M 27 0 + 1 + (([111, 118, 101, 32, 35, 32, 35] : List Int).length : Int) from by show _ = M 27 0 + 1 + ((7 : Nat) : Int); omega]; exact d3
    have v3 : (fX9_figure (mst (fX9_figureBehind (mst (fX9_figureBehind (fX9_needsThree B0 111 118 101) 32).2 6 (k + 1) (fX9_figureBehind (fX9_needsThree B0 111 118 101) 32).1) 32).2 6 (k + 2) (fX9_figureBehind (mst (fX9_figureBehind (fX9_needsThree B0 111 118 101) 32).2 6 (k + 1) (fX9_figureBehind (fX9_needsThree B0 111 118 101) 32).1) 32).1)).1 = tcM G (M 27 0 + 8) - 48 := by
      rw [fi_v t3 p3 d3, show M 27 0 + 1 + (([111, 118, 101, 32, 35, 32, 35] : List Int).length : Int) = M 27 0 + 8 from by show M 27 0 + 1 + ((7 : Nat) : Int) = _; omega]
    have a3 : fX7_argument C 7 (M 27 0) 2 = (fX9_figure (mst (fX9_figureBehind (mst (fX9_figureBehind (fX9_needsThree B0 111 118 101) 32).2 6 (k + 1) (fX9_figureBehind (fX9_needsThree B0 111 118 101) 32).1) 32).2 6 (k + 2) (fX9_figureBehind (mst (fX9_figureBehind (fX9_needsThree B0 111 118 101) 32).2 6 (k + 1) (fX9_figureBehind (fX9_needsThree B0 111 118 101) 32).1) 32).1)).1 := by
      rw [arg_e C (by decide) (M 27 0) 2, v3, ← va_35 h (i := M 27 0 + 8) (by omega) (by omega) d3']
      rfl
    refine ⟨?_, fun hc => ?_, fun hc => ?_⟩
    · rw [a1]
      simp (disch := omega) only [up_n, up_e]
    · rw [a2]
      simp (disch := omega) only [up_n, up_e]
    · rw [a3]
      simp (disch := omega) only [up_n, up_e]
theorem ro_8 {C G M : Mem} (h : TX C G) (hM : tcM M = tcM G) (h28 : M 28 0 = 0) (h0 : 0 ≤ M 27 0) (k : Int) (hl : tcM G (M 27 0) = 115) : RdO C G M (fX9_readsOrder M k) 8 k := by
  have hh : fX9_here M = 115 := by rw [here_e, hM]; exact hl
  have hp : pkB 115 (tcM G (M 27 0)) = true := (pk_pl (by decide) (by decide)).mpr hl
  have eN : fX9_readsOrder M k = (mst (fX9_figureBehind (mst (fX9_figureBehind (fX9_needs (fX9_needsThree (mst (msf M 27 (M 27 0 + 1)) 6 k (fX9_here M)) 116 97 105) 110) 32).2 6 (k + 1) (fX9_figureBehind (fX9_needs (fX9_needsThree (mst (msf M 27 (M 27 0 + 1)) 6 k (fX9_here M)) 116 97 105) 110) 32).1) 43).2 6 (k + 2) (fX9_figureBehind (mst (fX9_figureBehind (fX9_needs (fX9_needsThree (mst (msf M 27 (M 27 0 + 1)) 6 k (fX9_here M)) 116 97 105) 110) 32).2 6 (k + 1) (fX9_figureBehind (fX9_needs (fX9_needsThree (mst (msf M 27 (M 27 0 + 1)) 6 k (fX9_here M)) 116 97 105) 110) 32).1) 43).1) := by
    unfold fX9_readsOrder
    rw [if_neg (show ¬ fX9_here M = 102 by rw [hh]; decide), if_neg (show ¬ fX9_here M = 108 by rw [hh]; decide), if_neg (show ¬ fX9_here M = 109 by rw [hh]; decide), if_neg (show ¬ fX9_here M = 110 by rw [hh]; decide), if_neg (show ¬ fX9_here M = 111 by rw [hh]; decide), if_neg (show ¬ fX9_here M = 114 by rw [hh]; decide), if_pos hh]
  generalize hB0 : mst (msf M 27 (M 27 0 + 1)) 6 k (fX9_here M) = B0 at eN
  have b0 : bq B0 = (0, M 27 0 + 1) := by rw [← hB0]; show (M 28 0, M 27 0 + 1) = _; rw [h28]
  have b0t : tcM B0 = tcM G := by rw [← hB0, tM, tS, hM]
  have b6 : B0 6 = up (M 6) k 115 := by rw [← hB0, r6M, r6S, hh]
  have hM : tcM B0 = tcM G := b0t
  have e1 : bq ((fX9_needs (fX9_needsThree B0 116 97 105) 110)) = stps (tcM G) [116, 97, 105, 110] (0, M 27 0 + 1) := by
    simp only [bM, bT, bB, bq_needs, bq_figure, bq_fold, tN, tT, tF, tB, tH, tM, tS, hM, not_false_eq_true, Int.reduceEq, b0]
    rfl
  have t1 : tcM ((fX9_needs (fX9_needsThree B0 116 97 105) 110)) = tcM G := by simp only [tN, tT, tF, tB, tH, tM, tS, b0t]
  have e2 : bq ((mst (fX9_figureBehind (fX9_needs (fX9_needsThree B0 116 97 105) 110) 32).2 6 (k + 1) (fX9_figureBehind (fX9_needs (fX9_needsThree B0 116 97 105) 110) 32).1)) = stps (tcM G) [116, 97, 105, 110, 32, 35] (0, M 27 0 + 1) := by
    simp only [bM, bT, bB, bq_needs, bq_figure, bq_fold, tN, tT, tF, tB, tH, tM, tS, hM, not_false_eq_true, Int.reduceEq, b0]
    rfl
  have t2 : tcM ((mst (fX9_figureBehind (fX9_needs (fX9_needsThree B0 116 97 105) 110) 32).2 6 (k + 1) (fX9_figureBehind (fX9_needs (fX9_needsThree B0 116 97 105) 110) 32).1)) = tcM G := by simp only [tN, tT, tF, tB, tH, tM, tS, b0t]
  have n6 : fX9_readsOrder M k 6 = up (up (up (M 6) k 115) (k + 1) (fX9_figureBehind (fX9_needs (fX9_needsThree B0 116 97 105) 110) 32).1) (k + 2) (fX9_figureBehind (mst (fX9_figureBehind (fX9_needs (fX9_needsThree B0 116 97 105) 110) 32).2 6 (k + 1) (fX9_figureBehind (fX9_needs (fX9_needsThree B0 116 97 105) 110) 32).1) 43).1 := by
    rw [eN]
    simp only [r6N, r6T, r6F, r6B, r6H, r6M, b6]
  have bN : bq (fX9_readsOrder M k) = stps (tcM G) [116, 97, 105, 110, 32, 35, 43, 35] (0, M 27 0 + 1) := by
    rw [eN]
    simp only [bM, bT, bB, bq_needs, bq_figure, bq_fold, tN, tT, tF, tB, tH, tM, tS, hM, not_false_eq_true, Int.reduceEq, b0]
    rfl
  refine ⟨?_, fun z hz => ?_, ?_, fun hm => ?_⟩
  · rw [bN]
    exact bq_fin hp
  · rw [n6]
    simp (disch := omega) only [up_n]
  · rw [n6]
    simp (disch := omega) only [up_n, up_e]
    rfl
  · have hm0 : mtL (tcM G) [115, 116, 97, 105, 110, 32, 35, 43, 35] (M 27 0) = 9 := hm
    have hin := mt_in G [115, 116, 97, 105, 110, 32, 35, 43, 35] (M 27 0) (by decide) (by decide) hm0
    have hin2 : M 27 0 + 9 ≤ G 17 0 := hin
    have hm1 : mtL (tcM G) [116, 97, 105, 110, 32, 35, 43, 35] (M 27 0 + 1) = 8 := by
      have q : (if pkB 115 (tcM G (M 27 0)) = true then 1 + mtL (tcM G) [116, 97, 105, 110, 32, 35, 43, 35] (M 27 0 + 1) else 0) = 9 := hm0
      rw [if_pos hp] at q
      omega
    rw [n6]
    have p1 := e1.trans (pre_ok [116, 97, 105, 110] [32, 35, 43, 35] (M 27 0 + 1) hm1)
    have c1 := pk_ok (fc := 32) [116, 97, 105, 110] [35, 43, 35] (M 27 0 + 1) hm1
    have d1 := pk_ok (fc := 35) [116, 97, 105, 110, 32] [43, 35] (M 27 0 + 1) hm1
    have d1' : pkB 35 (tcM G (M 27 0 + 6)) = true := by rw [show M 27 0 + 6 = M 27 0 + 1 + (([116, 97, 105, 110, 32] : List Int).length : Int) from by show _ = M 27 0 + 1 + ((5 : Nat) : Int); omega]; exact d1
    have v1 : (fX9_figureBehind (fX9_needs (fX9_needsThree B0 116 97 105) 110) 32).1 = tcM G (M 27 0 + 6) - 48 := by
      rw [fb_v t1 (by decide) (by decide) p1 c1 (by rw [show M 27 0 + 1 + (([116, 97, 105, 110] : List Int).length : Int) + 1 = M 27 0 + 6 from by show M 27 0 + 1 + ((4 : Nat) : Int) + 1 = _; omega]; exact d1'), show M 27 0 + 1 + (([116, 97, 105, 110] : List Int).length : Int) + 1 = M 27 0 + 6 from by show M 27 0 + 1 + ((4 : Nat) : Int) + 1 = _; omega]
    have a1 : fX7_argument C 8 (M 27 0) 0 = (fX9_figureBehind (fX9_needs (fX9_needsThree B0 116 97 105) 110) 32).1 := by
      rw [arg_e C (by decide) (M 27 0) 0, v1, ← va_35 h (i := M 27 0 + 6) (by omega) (by omega) d1']
      rfl
    have p2 := e2.trans (pre_ok [116, 97, 105, 110, 32, 35] [43, 35] (M 27 0 + 1) hm1)
    have c2 := pk_ok (fc := 43) [116, 97, 105, 110, 32, 35] [35] (M 27 0 + 1) hm1
    have d2 := pk_ok (fc := 35) [116, 97, 105, 110, 32, 35, 43] [] (M 27 0 + 1) hm1
    have d2' : pkB 35 (tcM G (M 27 0 + 8)) = true := by rw [show M 27 0 + 8 = M 27 0 + 1 + (([116, 97, 105, 110, 32, 35, 43] : List Int).length : Int) from by show _ = M 27 0 + 1 + ((7 : Nat) : Int); omega]; exact d2
    have v2 : (fX9_figureBehind (mst (fX9_figureBehind (fX9_needs (fX9_needsThree B0 116 97 105) 110) 32).2 6 (k + 1) (fX9_figureBehind (fX9_needs (fX9_needsThree B0 116 97 105) 110) 32).1) 43).1 = tcM G (M 27 0 + 8) - 48 := by
      rw [fb_v t2 (by decide) (by decide) p2 c2 (by rw [show M 27 0 + 1 + (([116, 97, 105, 110, 32, 35] : List Int).length : Int) + 1 = M 27 0 + 8 from by show M 27 0 + 1 + ((6 : Nat) : Int) + 1 = _; omega]; exact d2'), show M 27 0 + 1 + (([116, 97, 105, 110, 32, 35] : List Int).length : Int) + 1 = M 27 0 + 8 from by show M 27 0 + 1 + ((6 : Nat) : Int) + 1 = _; omega]
    have a2 : fX7_argument C 8 (M 27 0) 1 = (fX9_figureBehind (mst (fX9_figureBehind (fX9_needs (fX9_needsThree B0 116 97 105) 110) 32).2 6 (k + 1) (fX9_figureBehind (fX9_needs (fX9_needsThree B0 116 97 105) 110) 32).1) 43).1 := by
      rw [arg_e C (by decide) (M 27 0) 1, v2, ← va_35 h (i := M 27 0 + 8) (by omega) (by omega) d2']
      rfl
    refine ⟨?_, fun hc => ?_, fun hc => ?_⟩
    · rw [a1]
      simp (disch := omega) only [up_n, up_e]
    · rw [a2]
      simp (disch := omega) only [up_n, up_e]
    · omega
