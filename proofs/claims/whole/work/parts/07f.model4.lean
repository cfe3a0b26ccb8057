/-! the model: phrases -/
def fX9_beginOf_L1 (M : Mem) (table phrase : Int) : Nat → Int → Int → (Int)
  | 0, _, _ => 0
  | k1 + 1, ii, crowns => if (phrase ≤ crowns) then ii else if ((fX9_foldAt M table ii) = (4)) then fX9_beginOf_L1 M table phrase k1 (ii + 1) (crowns + (1)) else fX9_beginOf_L1 M table phrase k1 (ii + 1) (crowns + (0))
def fX9_beginOf (M : Mem) (table phrase : Int) : Int := fX9_beginOf_L1 M table phrase 8 (0) (0)
set_option maxRecDepth 100000 in
set_option maxHeartbeats 4000000 in
theorem kX9_beginOf (l : Launch) (D : va_G) (E : Nat → Nat) (cI cC : ClassId) (Z : State → Prop) (hZo : ∀ M : Mem, ZOk (VG E cI cC M) Z) (hZb : ZBl Z) (M : Mem) (table phrase : Int) (h1 : 0 ≤ table ∧ table < 3) (h2 : 0 ≤ phrase ∧ phrase < fX9_phrasesOf M table) (hG : GI M) (r : Int) (hE : fX9_beginOf M table phrase = r) : Ci l yX9_beginOf wsX9_beginOf 3 69 [.ref (E 0), .int (iI table), .int (iI phrase)] D (TY cI cC) (VG E cI cC) Z M r M := by
  refine Ci.of (cc := cX9_beginOf) (maxL := 5) (ret := (some .int)) (by decide +kernel) rfl (Nat.le_of_ble_eq_true rfl) ?_
  intro p e s m args below meth c ls hx hb hml hr hown hts hlocks hP hK hD hZ hS hl
  have hl : lv_has ls 5 [(0, .ref (E 0)), (1, .int (iI table)), (2, .int (iI phrase))] := hl
  have S0 : CallFix p m c cX9_beginOf 5 s args wsX9_beginOf RX9 := ⟨hx, hb, hml, hown, hts⟩
  rw [fX9_beginOf] at hE
  refine z_iconst hx hb dX9_beginOf_0 ?_
  refine lv_istore_n hx hb dX9_beginOf_1 rfl hl (Nat.le_of_ble_eq_true rfl) (lv' := [(3, .int (iI (0))), (0, .ref (E 0)), (1, .int (iI table)), (2, .int (iI phrase))]) rfl (fun ls hl => ?_)
  refine z_iconst hx hb dX9_beginOf_2 ?_
  refine lv_istore hx hb dX9_beginOf_3 hl (Nat.le_of_ble_eq_true rfl) (lv' := [(4, .int (iI (0))), (3, .int (iI (0))), (0, .ref (E 0)), (1, .int (iI table)), (2, .int (iI phrase))]) rfl (fun ls hl => ?_)
  have L1 : ∀ (k1 : Nat) (ii crowns : Int) (ls : Array Slot) (H : Heap) (locs : List Loc), lv_has ls 5 [(0, .ref (E 0)), (1, .int (iI table)), (2, .int (iI phrase)), (3, .int (iI ii)), (4, .int (iI crowns))] → va_P D vwCl (VG E cI cC M) H → va_D (wA (VG E cI cC M)) (VG E cI cC M) → va_S (wA (VG E cI cC M)) s.heap H locs → (0 ≤ ii ∧ ii ≤ ((GL M table).length : Int)) → (0 ≤ crowns ∧ crowns ≤ phrase) → (((GL M table).length : Int) - ii < (k1 : Int)) → (phrase ≤ crowns + cntL idI 4 ((FL M table).drop ii.toNat)) → fX9_beginOf_L1 M table phrase k1 ii crowns = r → W p l e (zRm 3 69) s m args below meth c H locs 0 0 (MQ below (ciQ D (VG E cI cC) M r M) args s 0 0 (wA (VG E cI cC M))) (F0 m 5 ls []) := by
    intro k1
    induction k1 with
    | zero => intro ii crowns ls H locs hl hP hD hS i1 i2 i3 i4 hE; exfalso; omega
    | succ k1 ih1 =>
      intro ii crowns ls H locs hl hP hD hS i1 i2 i3 i4 hE
      have q85 := rg_X9_phrasesOf hG table (by omega)
      have q84 := GL_len hG (t := table) (by omega)
      have q88 := dr4 hG (t := table) (by omega) (i := ii) (by omega)
      rw [fX9_beginOf_L1] at hE
      refine lv_iload hx hb dX9_beginOf_5 (lv_at hl 4 rfl) ?_
      refine lv_iload_n hx hb dX9_beginOf_7 rfl (lv_at hl 2 rfl) ?_
      refine z_icmp_ge hx hb dX9_beginOf_8 (tgt := 37) rfl (by omega) (by omega) (fun b1 => ?_) (fun b1 => ?_)
      · rw [if_pos b1] at hE
        refine lv_iload_n hx hb dX9_beginOf_37 rfl (lv_at hl 3 rfl) ?_
        exact ci_i hx hb hr hlocks hE rfl hS hP dX9_beginOf_38
      · rw [if_neg b1] at hE
        refine lv_iload hx hb dX9_beginOf_11 (lv_at hl 4 rfl) ?_
        refine lv_aload_n hx hb dX9_beginOf_13 rfl (lv_at hl 0 rfl) ?_
        refine lv_iload_n hx hb dX9_beginOf_14 rfl (lv_at hl 1 rfl) ?_
        refine lv_iload_n hx hb dX9_beginOf_15 rfl (lv_at hl 3 rfl) ?_
        refine ct_Vi (VG_fix E cI cC) hZo hZb hZ S0 (kX9_foldAt l D E cI cC Z hZo hZb M table ii (by omega) (by omega) hG (fX9_foldAt M table ii) rfl) (cwV 2 hts gX9_beginOf_X9_foldAt rfl rfl rfl (by decide +kernel) ⟨(Nat.le_of_ble_eq_true rfl), (Nat.le_of_ble_eq_true rfl)⟩) hK hP hD hS rfl rfl VG_0 rfl hl.1 rfl (Nat.le_of_ble_eq_true rfl) dX9_beginOf_16 ⟨Nat.zero_le _, Nat.zero_le _⟩ (fun H locs hP hD hS => ?_)
        have q2 := rg_X9_foldAt hG table ii (by omega)
        refine z_iconst hx hb dX9_beginOf_19 ?_
        refine z_icmp_ne hx hb dX9_beginOf_20 (tgt := 27) rfl (by omega) (by omega) (fun b3 => ?_) (fun b3 => ?_)
        · rw [if_neg b3] at hE
          refine z_iconst hx hb dX9_beginOf_27 ?_
          refine z_iadd hx hb dX9_beginOf_28 ?_
          refine lv_istore hx hb dX9_beginOf_29 hl (Nat.le_of_ble_eq_true rfl) (lv' := [(4, .int (iI (crowns + (0)))), (0, .ref (E 0)), (1, .int (iI table)), (2, .int (iI phrase)), (3, .int (iI ii))]) rfl (fun ls hl => ?_)
          refine z_iinc hx hb dX9_beginOf_31 hl (k := 4) rfl (Nat.le_of_ble_eq_true rfl) (lv' := [(3, .int (iI (ii + 1))), (4, .int (iI (crowns + (0)))), (0, .ref (E 0)), (1, .int (iI table)), (2, .int (iI phrase))]) rfl (fun ls hl => ?_)
          refine lv_goto hx hb dX9_beginOf_34 (tgt := 5) rfl ?_
          exact ih1 (ii + 1) (crowns + (0)) ls _ _ (lv_sub hl [2, 3, 4, 0, 1] rfl) hP hD hS (by omega) (by omega) (by omega) (by omega) hE
        · rw [if_pos b3] at hE
          refine z_iconst hx hb dX9_beginOf_23 ?_
          refine lv_goto hx hb dX9_beginOf_24 (tgt := 28) rfl ?_
          refine z_iadd hx hb dX9_beginOf_28 ?_
          refine lv_istore hx hb dX9_beginOf_29 hl (Nat.le_of_ble_eq_true rfl) (lv' := [(4, .int (iI (crowns + (1)))), (0, .ref (E 0)), (1, .int (iI table)), (2, .int (iI phrase)), (3, .int (iI ii))]) rfl (fun ls hl => ?_)
          refine z_iinc hx hb dX9_beginOf_31 hl (k := 4) rfl (Nat.le_of_ble_eq_true rfl) (lv' := [(3, .int (iI (ii + 1))), (4, .int (iI (crowns + (1)))), (0, .ref (E 0)), (1, .int (iI table)), (2, .int (iI phrase))]) rfl (fun ls hl => ?_)
          refine lv_goto hx hb dX9_beginOf_34 (tgt := 5) rfl ?_
          exact ih1 (ii + 1) (crowns + (1)) ls _ _ (lv_sub hl [2, 3, 4, 0, 1] rfl) hP hD hS (by omega) (by omega) (by omega) (by omega) hE
  exact L1 8 (0) (0) ls _ _ (lv_sub hl [2, 3, 4, 1, 0] rfl) hP hD hS (by omega) (by omega) (by have := GL_len hG (t := table) (by omega); omega) (by have := ph_cnt hG (t := table) (by omega); omega) hE


theorem begin_L {M : Mem} (h : GI M) {t : Int} (ht : 0 ≤ t ∧ t < 3) (ph : Int) : ∀ (k : Nat) (i c s : Int), 0 ≤ i → i ≤ (GL M t).length → ((GL M t).length : Int) - i < k → c ≤ ph → (c = ph → s = 0) → 0 ≤ s → s ≤ 4 → fX9_isEnd (runG s ((FL M t).drop i.toNat)) = 1 → ph ≤ c + cntL idI 4 ((FL M t).drop i.toNat) → 0 ≤ fX9_beginOf_L1 M t ph k i c ∧ fX9_isEnd (runG 0 ((FL M t).drop (fX9_beginOf_L1 M t ph k i c).toNat)) = 1 := by
  intro k
  induction k with
  | zero => intro i c s _ _ _; omega
  | succ k ih =>
    intro i c s h0 h1 h2 h3 h4 h5 h6 h7 h8
    rw [fX9_beginOf_L1]
    by_cases hc : ph ≤ c
    · rw [if_pos hc]
      have e : s = 0 := h4 (by omega)
      rw [e] at h7
      exact ⟨h0, h7⟩
    · rw [if_neg hc]
      have d := dr4 h ht h0
      have hl : i < (GL M t).length := by omega
      have e1 := g_foldF h ht h0 hl
      have e2 : runG s ((FL M t).drop i.toNat) = runG (fX9_goesOn s (fX9_foldAt M t i)) ((FL M t).drop (i + 1).toNat) := by
        rw [FL_drop (k := i.toNat) (by omega), show (i + 1).toNat = i.toNat + 1 by omega, ← e1]
        rfl
      rw [e2] at h7
      have r := rg_X9_goesOn s (fX9_foldAt M t i)
      by_cases hf : fX9_foldAt M t i = 4
      · rw [if_pos hf]
        refine ih (i + 1) (c + 1) (fX9_goesOn s (fX9_foldAt M t i)) (by omega) (by omega) (by omega) (by omega) (fun hq => ?_) r.1 r.2 h7 (by omega)
        by_cases hs : fX9_goesOn s (fX9_foldAt M t i) = 4
        · rw [hs, run_4] at h7
          exact absurd h7 (by decide)
        · rw [hf] at hs ⊢
          unfold fX9_goesOn at hs ⊢
          (repeat' split at hs) <;> (repeat' split) <;> omega
      · rw [if_neg hf]
        exact ih (i + 1) (c + 0) (fX9_goesOn s (fX9_foldAt M t i)) (by omega) (by omega) (by omega) (by omega) (fun hq => by omega) r.1 r.2 h7 (by omega)
theorem begin_spec {M : Mem} (h : GI M) {t : Int} (ht : 0 ≤ t ∧ t < 3) (ph : Int) (hp : 0 ≤ ph ∧ ph < fX9_phrasesOf M t) : 0 ≤ fX9_beginOf M t ph ∧ fX9_beginOf M t ph < (GL M t).length ∧ SubG M t (fX9_beginOf M t ph) ∧ fX9_isEnd (runG 0 ((FL M t).drop (fX9_beginOf M t ph).toNat)) = 1 := by
  have g := GL_len h ht
  have c := ph_cnt h ht
  have r : fX9_isEnd (fX9_stateOf M t) = 1 := by
    have b := bX9_isEnd (fX9_stateOf M t)
    have e : fX9_rightly M t = fX9_isEnd (fX9_stateOf M t) := rfl
    have f : fX9_phrasesOf M t = 0 ∨ ¬ fX9_rightly M t = 0 := by
      by_cases q : fX9_rightly M t = 0
      · left
        unfold fX9_phrasesOf
        rw [if_pos q]
      · exact Or.inr q
    omega
  rw [g_state h ht] at r
  have a := begin_L h ht ph 8 0 0 0 (by decide) (by omega) (by omega) hp.1 (fun _ => rfl) (by decide) (by decide) r (by omega)
  have a2 : 0 ≤ fX9_beginOf M t ph ∧ fX9_isEnd (runG 0 ((FL M t).drop (fX9_beginOf M t ph).toNat)) = 1 := a
  exact ⟨a2.1, sub_in a2.1 (Or.inl a2.2), Or.inl a2.2, a2.2⟩

def fX9_subjectsFrom_L1 (M : Mem) (table begin : Int) : Nat → Int → (Int)
  | 0, _ => 0
  | k1 + 1, n => if ((fX9_foldAt M table (begin + n)) = (1)) then fX9_subjectsFrom_L1 M table begin k1 (n + 1) else n
def fX9_subjectsFrom (M : Mem) (table begin : Int) : Int := fX9_subjectsFrom_L1 M table begin 8 (0)
set_option maxRecDepth 100000 in
set_option maxHeartbeats 4000000 in
theorem kX9_subjectsFrom (l : Launch) (D : va_G) (E : Nat → Nat) (cI cC : ClassId) (Z : State → Prop) (hZo : ∀ M : Mem, ZOk (VG E cI cC M) Z) (hZb : ZBl Z) (M : Mem) (table begin : Int) (h1 : 0 ≤ table ∧ table < 3) (h2 : 0 ≤ begin) (hS0 : SubG M table begin) (hG : GI M) (r : Int) (hE : fX9_subjectsFrom M table begin = r) : Ci l yX9_subjectsFrom wsX9_subjectsFrom 3 69 [.ref (E 0), .int (iI table), .int (iI begin)] D (TY cI cC) (VG E cI cC) Z M r M := by
  refine Ci.of (cc := cX9_subjectsFrom) (maxL := 4) (ret := (some .int)) (by decide +kernel) rfl (Nat.le_of_ble_eq_true rfl) ?_
  intro p e s m args below meth c ls hx hb hml hr hown hts hlocks hP hK hD hZ hS hl
  have hl : lv_has ls 4 [(0, .ref (E 0)), (1, .int (iI table)), (2, .int (iI begin))] := hl
  have S0 : CallFix p m c cX9_subjectsFrom 4 s args wsX9_subjectsFrom RX9 := ⟨hx, hb, hml, hown, hts⟩
  rw [fX9_subjectsFrom] at hE
  refine z_iconst hx hb dX9_subjectsFrom_0 ?_
  refine lv_istore_n hx hb dX9_subjectsFrom_1 rfl hl (Nat.le_of_ble_eq_true rfl) (lv' := [(3, .int (iI (0))), (0, .ref (E 0)), (1, .int (iI table)), (2, .int (iI begin))]) rfl (fun ls hl => ?_)
  have L1 : ∀ (k1 : Nat) (n : Int) (ls : Array Slot) (H : Heap) (locs : List Loc), lv_has ls 4 [(0, .ref (E 0)), (1, .int (iI table)), (2, .int (iI begin)), (3, .int (iI n))] → va_P D vwCl (VG E cI cC M) H → va_D (wA (VG E cI cC M)) (VG E cI cC M) → va_S (wA (VG E cI cC M)) s.heap H locs → (0 ≤ n ∧ n ≤ 7) → (((GL M table).length : Int) - (begin + n) < (k1 : Int)) → (SubG M table (begin + n)) → fX9_subjectsFrom_L1 M table begin k1 n = r → W p l e (zRm 3 69) s m args below meth c H locs 0 0 (MQ below (ciQ D (VG E cI cC) M r M) args s 0 0 (wA (VG E cI cC M))) (F0 m 2 ls []) := by
    intro k1
    induction k1 with
    | zero => intro n ls H locs hl hP hD hS i1 i3 jS hE; exfalso; have := sub_in (by omega) jS; omega
    | succ k1 ih1 =>
      intro n ls H locs hl hP hD hS i1 i3 jS hE
      have q87 := sub_in (by omega) jS
      have q86 := GL_len hG (t := table) (by omega)
      rw [fX9_subjectsFrom_L1] at hE
      refine lv_aload_n hx hb dX9_subjectsFrom_2 rfl (lv_at hl 0 rfl) ?_
      refine lv_iload_n hx hb dX9_subjectsFrom_3 rfl (lv_at hl 1 rfl) ?_
      refine lv_iload_n hx hb dX9_subjectsFrom_4 rfl (lv_at hl 2 rfl) ?_
      refine lv_iload_n hx hb dX9_subjectsFrom_5 rfl (lv_at hl 3 rfl) ?_
      refine z_iadd hx hb dX9_subjectsFrom_6 ?_
      refine ct_Vi (VG_fix E cI cC) hZo hZb hZ S0 (kX9_foldAt l D E cI cC Z hZo hZb M table (begin + n) (by omega) (by omega) hG (fX9_foldAt M table (begin + n)) rfl) (cwV 2 hts gX9_subjectsFrom_X9_foldAt rfl rfl rfl (by decide +kernel) ⟨(Nat.le_of_ble_eq_true rfl), (Nat.le_of_ble_eq_true rfl)⟩) hK hP hD hS rfl rfl VG_0 rfl hl.1 rfl (Nat.le_of_ble_eq_true rfl) dX9_subjectsFrom_7 ⟨Nat.zero_le _, Nat.zero_le _⟩ (fun H locs hP hD hS => ?_)
      have q1 := rg_X9_foldAt hG table (begin + n) (by omega)
      refine z_iconst hx hb dX9_subjectsFrom_10 ?_
      refine z_icmp_ne hx hb dX9_subjectsFrom_11 (tgt := 20) rfl (by omega) (by omega) (fun b2 => ?_) (fun b2 => ?_)
      · rw [if_neg b2] at hE
        refine lv_iload_n hx hb dX9_subjectsFrom_20 rfl (lv_at hl 3 rfl) ?_
        exact ci_i hx hb hr hlocks hE rfl hS hP dX9_subjectsFrom_21
      · rw [if_pos b2] at hE
        refine z_iinc hx hb dX9_subjectsFrom_14 hl (k := 3) rfl (Nat.le_of_ble_eq_true rfl) (lv' := [(3, .int (iI (n + 1))), (0, .ref (E 0)), (1, .int (iI table)), (2, .int (iI begin))]) rfl (fun ls hl => ?_)
        refine lv_goto hx hb dX9_subjectsFrom_17 (tgt := 2) rfl ?_
        exact ih1 (n + 1) ls _ _ (lv_sub hl [1, 2, 3, 0] rfl) hP hD hS (by omega) (by omega) (by have := sub_step hG (t := table) (by omega) (by omega) jS (by assumption); rwa [Int.add_assoc] at this) hE
  exact L1 8 (0) ls _ _ (lv_sub hl [1, 2, 3, 0] rfl) hP hD hS (by omega) (by have := GL_len hG (t := table) (by omega); omega) (by rw [Int.add_zero]; exact hS0) hE


theorem subj_L {M : Mem} (h : GI M) {t : Int} (ht : 0 ≤ t ∧ t < 3) (b : Int) (hb : 0 ≤ b) : ∀ (k : Nat) (n : Int), 0 ≤ n → ((GL M t).length : Int) - (b + n) < k → SubG M t (b + n) → n ≤ fX9_subjectsFrom_L1 M t b k n ∧ b + fX9_subjectsFrom_L1 M t b k n < (GL M t).length := by
  intro k
  induction k with
  | zero =>
    intro n h0 h1 h2
    have := sub_in (by omega) h2
    omega
  | succ k ih =>
    intro n h0 h1 h2
    have g := sub_in (by omega) h2
    rw [fX9_subjectsFrom_L1]
    split
    · rename_i hf
      have := ih (n + 1) (by omega) (by omega) (by have := sub_step h ht (by omega) h2 hf; rwa [Int.add_assoc] at this)
      omega
    · omega
theorem subj_spec {M : Mem} (h : GI M) {t : Int} (ht : 0 ≤ t ∧ t < 3) (b : Int) (hb : 0 ≤ b) (hs : SubG M t b) : 0 ≤ fX9_subjectsFrom M t b ∧ b + fX9_subjectsFrom M t b < (GL M t).length :=
  subj_L h ht b hb 8 0 (by decide) (by have := GL_len h ht; omega) (by rw [Int.add_zero]; exact hs)
theorem said_in {M : Mem} (h : GI M) {t : Int} (ht : 0 ≤ t ∧ t < 3) {i : Int} (h0 : 0 ≤ i) (h1 : i < (GL M t).length) : 0 ≤ fX9_saidAt M t i ∧ fX9_saidAt M t i ≤ 9 := said_ge h ht h0 (by rw [g_size h ht]; exact h1)

def fX9_doAgree_L1 (M : Mem) (table begin subjects : Int) : Nat → Int → Int → (Int)
  | 0, _, _ => 0
  | k1 + 1, agree, ii => if ((begin + subjects) ≤ ii) then agree else if (agree = 0) then if ((M 0 ((5) + (fX9_saidAt M table ii))) = (M 0 ((5) + (fX9_saidAt M table (begin + subjects))))) then fX9_doAgree_L1 M table begin subjects k1 (1) (ii + 1) else fX9_doAgree_L1 M table begin subjects k1 (0) (ii + 1) else fX9_doAgree_L1 M table begin subjects k1 (1) (ii + 1)
def fX9_doAgree (M : Mem) (table begin subjects : Int) : Int := fX9_doAgree_L1 M table begin subjects 8 (0) begin
set_option maxRecDepth 100000 in
set_option maxHeartbeats 4000000 in
theorem kX9_doAgree (l : Launch) (D : va_G) (E : Nat → Nat) (cI cC : ClassId) (Z : State → Prop) (hZo : ∀ M : Mem, ZOk (VG E cI cC M) Z) (hZb : ZBl Z) (M : Mem) (table begin subjects : Int) (h1 : 0 ≤ table ∧ table < 3) (h2 : 0 ≤ begin) (h3 : 0 ≤ subjects) (h4 : begin + subjects < ((GL M table).length : Int)) (hG : GI M) (r : Int) (hE : fX9_doAgree M table begin subjects = r) : Ci l yX9_doAgree wsX9_doAgree 2 47 [.ref (E 0), .int (iI table), .int (iI begin), .int (iI subjects)] D (TY cI cC) (VG E cI cC) Z M r M := by
  refine Ci.of (cc := cX9_doAgree) (maxL := 7) (ret := (some .boolean)) (by decide +kernel) rfl (Nat.le_of_ble_eq_true rfl) ?_
  intro p e s m args below meth c ls hx hb hml hr hown hts hlocks hP hK hD hZ hS hl
  have hl : lv_has ls 7 [(0, .ref (E 0)), (1, .int (iI table)), (2, .int (iI begin)), (3, .int (iI subjects))] := hl
  have S0 : CallFix p m c cX9_doAgree 7 s args wsX9_doAgree RX9 := ⟨hx, hb, hml, hown, hts⟩
  have hinX9 : ∀ w ∈ u_ws RX9 TX9 20, w ∈ wsX9_doAgree := by decide +kernel
  have q86 := GL_len hG (t := table) (by omega)
  rw [fX9_doAgree] at hE
  refine lv_aload_n hx hb dX9_doAgree_0 rfl (lv_at hl 0 rfl) ?_
  refine va_get (own := RX9) (ref := "NapkinSyntaxModel") (C := RX9) (T := TX9) (N := 20) hx hb hts hinX9 hown hK hP 0 VG_0 rfl 0 (Nat.le_of_ble_eq_true rfl) (hts (.fieldLink RX9 7 "NapkinSyntaxModel" "g" "[I") (by decide +kernel)) (fun _ h => h) (v := .ref (E 1)) rfl dX9_doAgree_1 ?_
  refine z_iconst hx hb dX9_doAgree_4 ?_
  refine lv_aload_n hx hb dX9_doAgree_5 rfl (lv_at hl 0 rfl) ?_
  refine lv_iload_n hx hb dX9_doAgree_6 rfl (lv_at hl 1 rfl) ?_
  refine lv_iload_n hx hb dX9_doAgree_7 rfl (lv_at hl 2 rfl) ?_
  refine lv_iload_n hx hb dX9_doAgree_8 rfl (lv_at hl 3 rfl) ?_
  refine z_iadd hx hb dX9_doAgree_9 ?_
  refine ct_Vi (VG_fix E cI cC) hZo hZb hZ S0 (kX9_saidAt l D E cI cC Z hZo hZb M table (begin + subjects) (by omega) (by omega) hG (fX9_saidAt M table (begin + subjects)) rfl) (cwV 2 hts gX9_doAgree_X9_saidAt rfl rfl rfl (by decide +kernel) ⟨(Nat.le_of_ble_eq_true rfl), (Nat.le_of_ble_eq_true rfl)⟩) hK hP hD hS rfl rfl VG_0 rfl hl.1 rfl (Nat.le_of_ble_eq_true rfl) dX9_doAgree_10 ⟨Nat.zero_le _, Nat.zero_le _⟩ (fun H locs hP hD hS => ?_)
  have q1 := rg_X9_saidAt hG table (begin + subjects) (by omega)
  refine z_iadd hx hb dX9_doAgree_13 ?_
  have q85 := said_in hG (t := table) (by omega) (i := begin + subjects) (by omega) (by omega)
  refine z_iald hx hb hK hP 1 0 VG_1 rfl (by omega) (by omega) (by decide) dX9_doAgree_14 ?_
  have q2 := GI_5 hG ((5) + (fX9_saidAt M table (begin + subjects))) (by omega) (by omega)
  refine lv_istore hx hb dX9_doAgree_15 hl (Nat.le_of_ble_eq_true rfl) (lv' := [(4, .int (iI (M 0 ((5) + (fX9_saidAt M table (begin + subjects)))))), (0, .ref (E 0)), (1, .int (iI table)), (2, .int (iI begin)), (3, .int (iI subjects))]) rfl (fun ls hl => ?_)
  refine z_iconst hx hb dX9_doAgree_17 ?_
  refine lv_istore hx hb dX9_doAgree_18 hl (Nat.le_of_ble_eq_true rfl) (lv' := [(5, .int (iI (0))), (4, .int (iI (M 0 ((5) + (fX9_saidAt M table (begin + subjects)))))), (0, .ref (E 0)), (1, .int (iI table)), (2, .int (iI begin)), (3, .int (iI subjects))]) rfl (fun ls hl => ?_)
  refine lv_iload_n hx hb dX9_doAgree_20 rfl (lv_at hl 4 rfl) ?_
  refine lv_istore hx hb dX9_doAgree_21 hl (Nat.le_of_ble_eq_true rfl) (lv' := [(6, .int (iI begin)), (5, .int (iI (0))), (4, .int (iI (M 0 ((5) + (fX9_saidAt M table (begin + subjects)))))), (0, .ref (E 0)), (1, .int (iI table)), (2, .int (iI begin)), (3, .int (iI subjects))]) rfl (fun ls hl => ?_)
  have L1 : ∀ (k1 : Nat) (agree ii : Int) (ls : Array Slot) (H : Heap) (locs : List Loc), lv_has ls 7 [(0, .ref (E 0)), (1, .int (iI table)), (2, .int (iI begin)), (3, .int (iI subjects)), (4, .int (iI (M 0 ((5) + (fX9_saidAt M table (begin + subjects)))))), (5, .int (iI agree)), (6, .int (iI ii))] → va_P D vwCl (VG E cI cC M) H → va_D (wA (VG E cI cC M)) (VG E cI cC M) → va_S (wA (VG E cI cC M)) s.heap H locs → (begin ≤ ii ∧ ii ≤ begin + subjects) → (0 ≤ agree ∧ agree ≤ 1) → (begin + subjects - ii < (k1 : Int)) → fX9_doAgree_L1 M table begin subjects k1 agree ii = r → W p l e (zRm 2 47) s m args below meth c H locs 0 0 (MQ below (ciQ D (VG E cI cC) M r M) args s 0 0 (wA (VG E cI cC M))) (F0 m 23 ls []) := by
    intro k1
    induction k1 with
    | zero => intro agree ii ls H locs hl hP hD hS i1 i2 i3 hE; exfalso; omega
    | succ k1 ih1 =>
      intro agree ii ls H locs hl hP hD hS i1 i2 i3 hE
      have q85 := said_in hG (t := table) (by omega) (i := begin + subjects) (by omega) (by omega)
      have q83 := GI_5 hG (5 + fX9_saidAt M table (begin + subjects)) (by omega) (by omega)
      rw [fX9_doAgree_L1] at hE
      refine lv_iload hx hb dX9_doAgree_23 (lv_at hl 6 rfl) ?_
      refine lv_iload_n hx hb dX9_doAgree_25 rfl (lv_at hl 2 rfl) ?_
      refine lv_iload_n hx hb dX9_doAgree_26 rfl (lv_at hl 3 rfl) ?_
      refine z_iadd hx hb dX9_doAgree_27 ?_
      refine z_icmp_ge hx hb dX9_doAgree_28 (tgt := 68) rfl (by omega) (by omega) (fun b3 => ?_) (fun b3 => ?_)
      · rw [if_pos b3] at hE
        refine lv_iload hx hb dX9_doAgree_68 (lv_at hl 5 rfl) ?_
        exact ci_i hx hb hr hlocks hE (nr_bb (by omega) (by omega)) hS hP dX9_doAgree_70
      · rw [if_neg b3] at hE
        refine lv_iload hx hb dX9_doAgree_31 (lv_at hl 5 rfl) ?_
        refine z_if_ne hx hb dX9_doAgree_33 (tgt := 55) rfl (by omega) (fun b4 => ?_) (fun b4 => ?_)
        · rw [if_neg b4] at hE
          refine z_iconst hx hb dX9_doAgree_55 ?_
          refine lv_goto hx hb dX9_doAgree_56 (tgt := 60) rfl ?_
          refine lv_istore hx hb dX9_doAgree_60 hl (Nat.le_of_ble_eq_true rfl) (lv' := [(5, .int (iI (1))), (0, .ref (E 0)), (1, .int (iI table)), (2, .int (iI begin)), (3, .int (iI subjects)), (4, .int (iI (M 0 ((5) + (fX9_saidAt M table (begin + subjects)))))), (6, .int (iI ii))]) rfl (fun ls hl => ?_)
          refine z_iinc hx hb dX9_doAgree_62 hl (k := 6) rfl (Nat.le_of_ble_eq_true rfl) (lv' := [(6, .int (iI (ii + 1))), (5, .int (iI (1))), (0, .ref (E 0)), (1, .int (iI table)), (2, .int (iI begin)), (3, .int (iI subjects)), (4, .int (iI (M 0 ((5) + (fX9_saidAt M table (begin + subjects))))))]) rfl (fun ls hl => ?_)
          refine lv_goto hx hb dX9_doAgree_65 (tgt := 23) rfl ?_
          exact ih1 (1) (ii + 1) ls _ _ (lv_sub hl [2, 3, 4, 5, 6, 1, 0] rfl) hP hD hS (by omega) (by omega) (by omega) hE
        · rw [if_pos b4] at hE
          refine lv_aload_n hx hb dX9_doAgree_36 rfl (lv_at hl 0 rfl) ?_
          refine va_get (own := RX9) (ref := "NapkinSyntaxModel") (C := RX9) (T := TX9) (N := 20) hx hb hts hinX9 hown hK hP 0 VG_0 rfl 0 (Nat.le_of_ble_eq_true rfl) (hts (.fieldLink RX9 7 "NapkinSyntaxModel" "g" "[I") (by decide +kernel)) (fun _ h => h) (v := .ref (E 1)) rfl dX9_doAgree_37 ?_
          refine z_iconst hx hb dX9_doAgree_40 ?_
          refine lv_aload_n hx hb dX9_doAgree_41 rfl (lv_at hl 0 rfl) ?_
          refine lv_iload_n hx hb dX9_doAgree_42 rfl (lv_at hl 1 rfl) ?_
          refine lv_iload hx hb dX9_doAgree_43 (lv_at hl 6 rfl) ?_
          refine ct_Vi (VG_fix E cI cC) hZo hZb hZ S0 (kX9_saidAt l D E cI cC Z hZo hZb M table ii (by omega) (by omega) hG (fX9_saidAt M table ii) rfl) (cwV 2 hts gX9_doAgree_X9_saidAt rfl rfl rfl (by decide +kernel) ⟨(Nat.le_of_ble_eq_true rfl), (Nat.le_of_ble_eq_true rfl)⟩) hK hP hD hS rfl rfl VG_0 rfl hl.1 rfl (Nat.le_of_ble_eq_true rfl) dX9_doAgree_45 ⟨Nat.zero_le _, Nat.zero_le _⟩ (fun H locs hP hD hS => ?_)
          have q5 := rg_X9_saidAt hG table ii (by omega)
          refine z_iadd hx hb dX9_doAgree_48 ?_
          have q84 := said_in hG (t := table) (by omega) (i := ii) (by omega) (by omega)
          refine z_iald hx hb hK hP 1 0 VG_1 rfl (by omega) (by omega) (by decide) dX9_doAgree_49 ?_
          have q6 := GI_5 hG ((5) + (fX9_saidAt M table ii)) (by omega) (by omega)
          refine lv_iload hx hb dX9_doAgree_50 (lv_at hl 4 rfl) ?_
          refine z_icmp_ne hx hb dX9_doAgree_52 (tgt := 59) rfl (by omega) (by omega) (fun b7 => ?_) (fun b7 => ?_)
          · rw [if_neg b7] at hE
            refine z_iconst hx hb dX9_doAgree_59 ?_
            refine lv_istore hx hb dX9_doAgree_60 hl (Nat.le_of_ble_eq_true rfl) (lv' := [(5, .int (iI (0))), (0, .ref (E 0)), (1, .int (iI table)), (2, .int (iI begin)), (3, .int (iI subjects)), (4, .int (iI (M 0 ((5) + (fX9_saidAt M table (begin + subjects)))))), (6, .int (iI ii))]) rfl (fun ls hl => ?_)
            refine z_iinc hx hb dX9_doAgree_62 hl (k := 6) rfl (Nat.le_of_ble_eq_true rfl) (lv' := [(6, .int (iI (ii + 1))), (5, .int (iI (0))), (0, .ref (E 0)), (1, .int (iI table)), (2, .int (iI begin)), (3, .int (iI subjects)), (4, .int (iI (M 0 ((5) + (fX9_saidAt M table (begin + subjects))))))]) rfl (fun ls hl => ?_)
            refine lv_goto hx hb dX9_doAgree_65 (tgt := 23) rfl ?_
            exact ih1 (0) (ii + 1) ls _ _ (lv_sub hl [2, 3, 4, 5, 6, 1, 0] rfl) hP hD hS (by omega) (by omega) (by omega) hE
          · rw [if_pos b7] at hE
            refine z_iconst hx hb dX9_doAgree_55 ?_
            refine lv_goto hx hb dX9_doAgree_56 (tgt := 60) rfl ?_
            refine lv_istore hx hb dX9_doAgree_60 hl (Nat.le_of_ble_eq_true rfl) (lv' := [(5, .int (iI (1))), (0, .ref (E 0)), (1, .int (iI table)), (2, .int (iI begin)), (3, .int (iI subjects)), (4, .int (iI (M 0 ((5) + (fX9_saidAt M table (begin + subjects)))))), (6, .int (iI ii))]) rfl (fun ls hl => ?_)
            refine z_iinc hx hb dX9_doAgree_62 hl (k := 6) rfl (Nat.le_of_ble_eq_true rfl) (lv' := [(6, .int (iI (ii + 1))), (5, .int (iI (1))), (0, .ref (E 0)), (1, .int (iI table)), (2, .int (iI begin)), (3, .int (iI subjects)), (4, .int (iI (M 0 ((5) + (fX9_saidAt M table (begin + subjects))))))]) rfl (fun ls hl => ?_)
            refine lv_goto hx hb dX9_doAgree_65 (tgt := 23) rfl ?_
            exact ih1 (1) (ii + 1) ls _ _ (lv_sub hl [2, 3, 4, 5, 6, 1, 0] rfl) hP hD hS (by omega) (by omega) (by omega) hE
  exact L1 8 (0) begin ls _ _ (lv_sub hl [3, 4, 5, 6, 2, 1, 0] rfl) hP hD hS (by omega) (by omega) (by omega) hE


theorem bX9_doAgree_L (M : Mem) (t b s : Int) : ∀ (k : Nat) (a n : Int), 0 ≤ a → a ≤ 1 → 0 ≤ fX9_doAgree_L1 M t b s k a n ∧ fX9_doAgree_L1 M t b s k a n ≤ 1 := by
  intro k
  induction k with
  | zero => intro a n _ _; exact ⟨(by decide : (0 : Int) ≤ 0), (by decide : (0 : Int) ≤ 1)⟩
  | succ k ih =>
    intro a n h1 h2
    rw [fX9_doAgree_L1]
    (repeat' split) <;> first | omega | exact ih _ _ (by omega) (by omega)
theorem bX9_doAgree (M : Mem) (t b s : Int) : 0 ≤ fX9_doAgree M t b s ∧ fX9_doAgree M t b s ≤ 1 := bX9_doAgree_L M t b s 8 0 b (by decide) (by decide)

def fX9_objectAt (M : Mem) (table number : Int) : Int := if ((fX9_countOf M table (0)) ≤ number) then (-1) else if ((fX9_foldAt M table number) = (3)) then (fX9_saidAt M table number) else (-1)
set_option maxRecDepth 100000 in
set_option maxHeartbeats 4000000 in
theorem kX9_objectAt (l : Launch) (D : va_G) (E : Nat → Nat) (cI cC : ClassId) (Z : State → Prop) (hZo : ∀ M : Mem, ZOk (VG E cI cC M) Z) (hZb : ZBl Z) (M : Mem) (table number : Int) (h1 : 0 ≤ table ∧ table < 3) (h2 : -2147483648 ≤ number ∧ number < 2147483648) (hG : GI M) (r : Int) (hE : fX9_objectAt M table number = r) : Ci l yX9_objectAt wsX9_objectAt 3 69 [.ref (E 0), .int (iI table), .int (iI number)] D (TY cI cC) (VG E cI cC) Z M r M := by
  refine Ci.of (cc := cX9_objectAt) (maxL := 3) (ret := (some .int)) (by decide +kernel) rfl (Nat.le_of_ble_eq_true rfl) ?_
  intro p e s m args below meth c ls hx hb hml hr hown hts hlocks hP hK hD hZ hS hl
  have hl : lv_has ls 3 [(0, .ref (E 0)), (1, .int (iI table)), (2, .int (iI number))] := hl
  have S0 : CallFix p m c cX9_objectAt 3 s args wsX9_objectAt RX9 := ⟨hx, hb, hml, hown, hts⟩
  rw [fX9_objectAt] at hE
  refine lv_iload_n hx hb dX9_objectAt_0 rfl (lv_at hl 2 rfl) ?_
  refine lv_aload_n hx hb dX9_objectAt_1 rfl (lv_at hl 0 rfl) ?_
  refine lv_iload_n hx hb dX9_objectAt_2 rfl (lv_at hl 1 rfl) ?_
  refine z_iconst hx hb dX9_objectAt_3 ?_
  refine ct_Vi (VG_fix E cI cC) hZo hZb hZ S0 (kX9_countOf l D E cI cC Z hZo hZb M table (0) (by omega) (by omega) hG (fX9_countOf M table (0)) rfl) (cwV 2 hts gX9_objectAt_X9_countOf rfl rfl rfl (by decide +kernel) ⟨(Nat.le_of_ble_eq_true rfl), (Nat.le_of_ble_eq_true rfl)⟩) hK hP hD hS rfl rfl VG_0 rfl hl.1 rfl (Nat.le_of_ble_eq_true rfl) dX9_objectAt_4 ⟨Nat.zero_le _, Nat.zero_le _⟩ (fun H locs hP hD hS => ?_)
  have q1 := rg_X9_countOf hG table (0) (by omega)
  refine z_icmp_ge hx hb dX9_objectAt_7 (tgt := 29) rfl (by omega) (by omega) (fun b2 => ?_) (fun b2 => ?_)
  · rw [if_pos b2] at hE
    refine z_iconst hx hb dX9_objectAt_29 ?_
    exact ci_i hx hb hr hlocks hE rfl hS hP dX9_objectAt_30
  · rw [if_neg b2] at hE
    refine lv_aload_n hx hb dX9_objectAt_10 rfl (lv_at hl 0 rfl) ?_
    refine lv_iload_n hx hb dX9_objectAt_11 rfl (lv_at hl 1 rfl) ?_
    refine lv_iload_n hx hb dX9_objectAt_12 rfl (lv_at hl 2 rfl) ?_
    refine ct_Vi (VG_fix E cI cC) hZo hZb hZ S0 (kX9_foldAt l D E cI cC Z hZo hZb M table number (by omega) (by omega) hG (fX9_foldAt M table number) rfl) (cwV 2 hts gX9_objectAt_X9_foldAt rfl rfl rfl (by decide +kernel) ⟨(Nat.le_of_ble_eq_true rfl), (Nat.le_of_ble_eq_true rfl)⟩) hK hP hD hS rfl rfl VG_0 rfl hl.1 rfl (Nat.le_of_ble_eq_true rfl) dX9_objectAt_13 ⟨Nat.zero_le _, Nat.zero_le _⟩ (fun H locs hP hD hS => ?_)
    have q3 := rg_X9_foldAt hG table number (by omega)
    refine z_iconst hx hb dX9_objectAt_16 ?_
    refine z_icmp_ne hx hb dX9_objectAt_17 (tgt := 29) rfl (by omega) (by omega) (fun b4 => ?_) (fun b4 => ?_)
    · rw [if_neg b4] at hE
      refine z_iconst hx hb dX9_objectAt_29 ?_
      exact ci_i hx hb hr hlocks hE rfl hS hP dX9_objectAt_30
    · rw [if_pos b4] at hE
      refine lv_aload_n hx hb dX9_objectAt_20 rfl (lv_at hl 0 rfl) ?_
      refine lv_iload_n hx hb dX9_objectAt_21 rfl (lv_at hl 1 rfl) ?_
      refine lv_iload_n hx hb dX9_objectAt_22 rfl (lv_at hl 2 rfl) ?_
      refine ct_Vi (VG_fix E cI cC) hZo hZb hZ S0 (kX9_saidAt l D E cI cC Z hZo hZb M table number (by omega) (by omega) hG (fX9_saidAt M table number) rfl) (cwV 2 hts gX9_objectAt_X9_saidAt rfl rfl rfl (by decide +kernel) ⟨(Nat.le_of_ble_eq_true rfl), (Nat.le_of_ble_eq_true rfl)⟩) hK hP hD hS rfl rfl VG_0 rfl hl.1 rfl (Nat.le_of_ble_eq_true rfl) dX9_objectAt_23 ⟨Nat.zero_le _, Nat.zero_le _⟩ (fun H locs hP hD hS => ?_)
      have q5 := rg_X9_saidAt hG table number (by omega)
      refine lv_goto hx hb dX9_objectAt_26 (tgt := 30) rfl ?_
      exact ci_i hx hb hr hlocks hE rfl hS hP dX9_objectAt_30

def fX9_phraseOf (M : Mem) (table phrase what : Int) : Int × Mem := if ((fX9_isTable table) = 0) then ((fX9_fails M (1)).1, (fX9_fails M (1)).2) else if ((fX9_in phrase (0) ((fX9_phrasesOf M table) - (1))) = 0) then ((fX9_fails M (2)).1, (fX9_fails M (2)).2) else if (what = 0) then ((fX9_done M (fX9_subjectsFrom M table (fX9_beginOf M table phrase))).1, (fX9_done M (fX9_subjectsFrom M table (fX9_beginOf M table phrase))).2) else if (what = 1) then ((fX9_done M (fX9_saidAt M table ((fX9_beginOf M table phrase) + (fX9_subjectsFrom M table (fX9_beginOf M table phrase))))).1, (fX9_done M (fX9_saidAt M table ((fX9_beginOf M table phrase) + (fX9_subjectsFrom M table (fX9_beginOf M table phrase))))).2) else if (what = 2) then ((fX9_done M (fX9_objectAt M table (((fX9_beginOf M table phrase) + (fX9_subjectsFrom M table (fX9_beginOf M table phrase))) + (1)))).1, (fX9_done M (fX9_objectAt M table (((fX9_beginOf M table phrase) + (fX9_subjectsFrom M table (fX9_beginOf M table phrase))) + (1)))).2) else if (what = 3) then if ((fX9_doAgree M table (fX9_beginOf M table phrase) (fX9_subjectsFrom M table (fX9_beginOf M table phrase))) = 0) then ((fX9_done M (0)).1, (fX9_done M (0)).2) else ((fX9_done M (1)).1, (fX9_done M (1)).2) else ((fX9_fails M (3)).1, (fX9_fails M (3)).2)
set_option maxRecDepth 100000 in
set_option maxHeartbeats 4000000 in
theorem kX9_phraseOf (l : Launch) (D : va_G) (E : Nat → Nat) (cI cC : ClassId) (Z : State → Prop) (hZo : ∀ M : Mem, ZOk (VG E cI cC M) Z) (hZb : ZBl Z) (M : Mem) (table phrase what : Int) (h1 : -2147483648 ≤ table ∧ table < 2147483648) (h2 : -2147483648 ≤ phrase ∧ phrase < 2147483648) (h3 : -2147483648 ≤ what ∧ what < 2147483648) (hG : GI M) (r : Int) (M' : Mem) (hE : fX9_phraseOf M table phrase what = (r, M')) : Ci l yX9_phraseOf wsX9_phraseOf 6 134 [.ref (E 0), .int (iI table), .int (iI phrase), .int (iI what)] D (TY cI cC) (VG E cI cC) Z M r M' := by
  refine Ci.of (cc := cX9_phraseOf) (maxL := 6) (ret := (some .int)) (by decide +kernel) rfl (Nat.le_of_ble_eq_true rfl) ?_
  intro p e s m args below meth c ls hx hb hml hr hown hts hlocks hP hK hD hZ hS hl
  have hl : lv_has ls 6 [(0, .ref (E 0)), (1, .int (iI table)), (2, .int (iI phrase)), (3, .int (iI what))] := hl
  have S0 : CallFix p m c cX9_phraseOf 6 s args wsX9_phraseOf RX9 := ⟨hx, hb, hml, hown, hts⟩
  rw [fX9_phraseOf] at hE
  refine lv_iload_n hx hb dX9_phraseOf_0 rfl (lv_at hl 1 rfl) ?_
  refine ct_Si (VG_fix E cI cC) hZo hZb hZ S0 (kX9_isTable l D E cI cC Z hZo hZb M table (by omega) (fX9_isTable table) rfl) (va_cwS 1 hts gX9_phraseOf_X9_isTable rfl rfl rfl (by decide +kernel) ⟨(Nat.le_of_ble_eq_true rfl), (Nat.le_of_ble_eq_true rfl)⟩) hK hP hD hS rfl hl.1 rfl (Nat.le_of_ble_eq_true rfl) dX9_phraseOf_1 ⟨Nat.zero_le _, Nat.zero_le _⟩ (fun H locs hP hD hS => ?_)
  have q1 := dX9_isTable table
  refine z_if_ne hx hb dX9_phraseOf_4 (tgt := 13) rfl (by omega) (fun b2 => ?_) (fun b2 => ?_)
  · rw [if_neg b2] at hE
    refine lv_iload_n hx hb dX9_phraseOf_13 rfl (lv_at hl 2 rfl) ?_
    refine z_iconst hx hb dX9_phraseOf_14 ?_
    refine lv_aload_n hx hb dX9_phraseOf_15 rfl (lv_at hl 0 rfl) ?_
    refine lv_iload_n hx hb dX9_phraseOf_16 rfl (lv_at hl 1 rfl) ?_
    refine ct_Vi (VG_fix E cI cC) hZo hZb hZ S0 (kX9_phrasesOf l D E cI cC Z hZo hZb M table (by omega) hG (fX9_phrasesOf M table) rfl) (cwV 1 hts gX9_phraseOf_X9_phrasesOf rfl rfl rfl (by decide +kernel) ⟨(Nat.le_of_ble_eq_true rfl), (Nat.le_of_ble_eq_true rfl)⟩) hK hP hD hS rfl rfl VG_0 rfl hl.1 rfl (Nat.le_of_ble_eq_true rfl) dX9_phraseOf_17 ⟨Nat.zero_le _, Nat.zero_le _⟩ (fun H locs hP hD hS => ?_)
    have q3 := rg_X9_phrasesOf hG table (by omega)
    refine z_iconst hx hb dX9_phraseOf_20 ?_
    refine z_isub hx hb dX9_phraseOf_21 ?_
    refine ct_Si (VG_fix E cI cC) hZo hZb hZ S0 (kX9_in l D E cI cC Z hZo hZb M phrase (0) ((fX9_phrasesOf M table) - (1)) (by omega) (by omega) (by omega) (fX9_in phrase (0) ((fX9_phrasesOf M table) - (1))) rfl) (va_cwS 3 hts gX9_phraseOf_X9_in rfl rfl rfl (by decide +kernel) ⟨(Nat.le_of_ble_eq_true rfl), (Nat.le_of_ble_eq_true rfl)⟩) hK hP hD hS rfl hl.1 rfl (Nat.le_of_ble_eq_true rfl) dX9_phraseOf_22 ⟨Nat.zero_le _, Nat.zero_le _⟩ (fun H locs hP hD hS => ?_)
    have q4 := dX9_in phrase (0) ((fX9_phrasesOf M table) - (1))
    refine z_if_ne hx hb dX9_phraseOf_25 (tgt := 34) rfl (by omega) (fun b5 => ?_) (fun b5 => ?_)
    · rw [if_neg b5] at hE
      refine lv_aload_n hx hb dX9_phraseOf_34 rfl (lv_at hl 0 rfl) ?_
      refine lv_iload_n hx hb dX9_phraseOf_35 rfl (lv_at hl 1 rfl) ?_
      refine lv_iload_n hx hb dX9_phraseOf_36 rfl (lv_at hl 2 rfl) ?_
      have q77 := begin_spec hG (t := table) (by omega) phrase (by omega)
      refine ct_Vi (VG_fix E cI cC) hZo hZb hZ S0 (kX9_beginOf l D E cI cC Z hZo hZb M table phrase (by omega) (by omega) hG (fX9_beginOf M table phrase) rfl) (cwV 2 hts gX9_phraseOf_X9_beginOf rfl rfl rfl (by decide +kernel) ⟨(Nat.le_of_ble_eq_true rfl), (Nat.le_of_ble_eq_true rfl)⟩) hK hP hD hS rfl rfl VG_0 rfl hl.1 rfl (Nat.le_of_ble_eq_true rfl) dX9_phraseOf_37 ⟨Nat.zero_le _, Nat.zero_le _⟩ (fun H locs hP hD hS => ?_)
      have q6 := begin_spec hG (t := table) (by omega) phrase (by omega)
      have q76 := subj_spec hG (t := table) (by omega) (fX9_beginOf M table phrase) (by omega) q77.2.2.1
      have q75 := GL_len hG (t := table) (by omega)
      refine lv_istore hx hb dX9_phraseOf_40 hl (Nat.le_of_ble_eq_true rfl) (lv' := [(4, .int (iI (fX9_beginOf M table phrase))), (0, .ref (E 0)), (1, .int (iI table)), (2, .int (iI phrase)), (3, .int (iI what))]) rfl (fun ls hl => ?_)
      refine lv_aload_n hx hb dX9_phraseOf_42 rfl (lv_at hl 1 rfl) ?_
      refine lv_iload_n hx hb dX9_phraseOf_43 rfl (lv_at hl 2 rfl) ?_
      refine lv_iload hx hb dX9_phraseOf_44 (lv_at hl 0 rfl) ?_
      refine ct_Vi (VG_fix E cI cC) hZo hZb hZ S0 (kX9_subjectsFrom l D E cI cC Z hZo hZb M table (fX9_beginOf M table phrase) (by omega) (by omega) q77.2.2.1 hG (fX9_subjectsFrom M table (fX9_beginOf M table phrase)) rfl) (cwV 2 hts gX9_phraseOf_X9_subjectsFrom rfl rfl rfl (by decide +kernel) ⟨(Nat.le_of_ble_eq_true rfl), (Nat.le_of_ble_eq_true rfl)⟩) hK hP hD hS rfl rfl VG_0 rfl hl.1 rfl (Nat.le_of_ble_eq_true rfl) dX9_phraseOf_46 ⟨Nat.zero_le _, Nat.zero_le _⟩ (fun H locs hP hD hS => ?_)
      have q7 := subj_spec hG (t := table) (by omega) (fX9_beginOf M table phrase) (by omega) q77.2.2.1
      refine lv_istore hx hb dX9_phraseOf_49 hl (Nat.le_of_ble_eq_true rfl) (lv' := [(5, .int (iI (fX9_subjectsFrom M table (fX9_beginOf M table phrase)))), (4, .int (iI (fX9_beginOf M table phrase))), (0, .ref (E 0)), (1, .int (iI table)), (2, .int (iI phrase)), (3, .int (iI what))]) rfl (fun ls hl => ?_)
      refine lv_iload_n hx hb dX9_phraseOf_51 rfl (lv_at hl 5 rfl) ?_
      by_cases b8 : (what = 0)
      · rw [if_pos b8] at hE
        refine z_table hx hb dX9_phraseOf_52 (k0 := 0) (tgt := 84) (by omega) b8 (by decide) (by decide) rfl rfl ?_
        refine lv_aload_n hx hb dX9_phraseOf_84 rfl (lv_at hl 2 rfl) ?_
        refine lv_iload hx hb dX9_phraseOf_85 (lv_at hl 0 rfl) ?_
        refine ct_Vi (VG_fix E cI cC) hZo hZb hZ S0 (kX9_done l D E cI cC Z hZo hZb M (fX9_subjectsFrom M table (fX9_beginOf M table phrase))  (fX9_done M (fX9_subjectsFrom M table (fX9_beginOf M table phrase))).1 (fX9_done M (fX9_subjectsFrom M table (fX9_beginOf M table phrase))).2 (Prod.ext rfl rfl)) (cwV 1 hts gX9_phraseOf_X9_done rfl rfl rfl (by decide +kernel) ⟨(Nat.le_of_ble_eq_true rfl), (Nat.le_of_ble_eq_true rfl)⟩) hK hP hD hS rfl rfl VG_0 rfl hl.1 rfl (Nat.le_of_ble_eq_true rfl) dX9_phraseOf_87 ⟨Nat.zero_le _, Nat.zero_le _⟩ (fun H locs hP hD hS => ?_)
        obtain ⟨e1, e2⟩ := Prod.mk.inj hE
        subst e2
        exact ci_i hx hb hr hlocks e1 rfl hS hP dX9_phraseOf_90
      · rw [if_neg b8] at hE
        by_cases b9 : (what = 1)
        · rw [if_pos b9] at hE
          refine z_table hx hb dX9_phraseOf_52 (k0 := 1) (tgt := 91) (by omega) b9 (by decide) (by decide) rfl rfl ?_
          refine lv_aload_n hx hb dX9_phraseOf_91 rfl (lv_at hl 2 rfl) ?_
          refine lv_aload_n hx hb dX9_phraseOf_92 rfl (lv_at hl 2 rfl) ?_
          refine lv_iload_n hx hb dX9_phraseOf_93 rfl (lv_at hl 3 rfl) ?_
          refine lv_iload hx hb dX9_phraseOf_94 (lv_at hl 1 rfl) ?_
          refine lv_iload hx hb dX9_phraseOf_96 (lv_at hl 0 rfl) ?_
          refine z_iadd hx hb dX9_phraseOf_98 ?_
          refine ct_Vi (VG_fix E cI cC) hZo hZb hZ S0 (kX9_saidAt l D E cI cC Z hZo hZb M table ((fX9_beginOf M table phrase) + (fX9_subjectsFrom M table (fX9_beginOf M table phrase))) (by omega) (by omega) hG (fX9_saidAt M table ((fX9_beginOf M table phrase) + (fX9_subjectsFrom M table (fX9_beginOf M table phrase)))) rfl) (cwV 2 hts gX9_phraseOf_X9_saidAt rfl rfl rfl (by decide +kernel) ⟨(Nat.le_of_ble_eq_true rfl), (Nat.le_of_ble_eq_true rfl)⟩) hK hP hD hS rfl rfl VG_0 rfl hl.1 rfl (Nat.le_of_ble_eq_true rfl) dX9_phraseOf_99 ⟨Nat.zero_le _, Nat.zero_le _⟩ (fun H locs hP hD hS => ?_)
          have q10 := rg_X9_saidAt hG table ((fX9_beginOf M table phrase) + (fX9_subjectsFrom M table (fX9_beginOf M table phrase))) (by omega)
          refine ct_Vi (VG_fix E cI cC) hZo hZb hZ S0 (kX9_done l D E cI cC Z hZo hZb M (fX9_saidAt M table ((fX9_beginOf M table phrase) + (fX9_subjectsFrom M table (fX9_beginOf M table phrase))))  (fX9_done M (fX9_saidAt M table ((fX9_beginOf M table phrase) + (fX9_subjectsFrom M table (fX9_beginOf M table phrase))))).1 (fX9_done M (fX9_saidAt M table ((fX9_beginOf M table phrase) + (fX9_subjectsFrom M table (fX9_beginOf M table phrase))))).2 (Prod.ext rfl rfl)) (cwV 1 hts gX9_phraseOf_X9_done rfl rfl rfl (by decide +kernel) ⟨(Nat.le_of_ble_eq_true rfl), (Nat.le_of_ble_eq_true rfl)⟩) hK hP hD hS rfl rfl VG_0 rfl hl.1 rfl (Nat.le_of_ble_eq_true rfl) dX9_phraseOf_102 ⟨Nat.zero_le _, Nat.zero_le _⟩ (fun H locs hP hD hS => ?_)
          obtain ⟨e1, e2⟩ := Prod.mk.inj hE
          subst e2
          exact ci_i hx hb hr hlocks e1 rfl hS hP dX9_phraseOf_105
        · rw [if_neg b9] at hE
          by_cases b11 : (what = 2)
          · rw [if_pos b11] at hE
            refine z_table hx hb dX9_phraseOf_52 (k0 := 2) (tgt := 106) (by omega) b11 (by decide) (by decide) rfl rfl ?_
            refine lv_aload_n hx hb dX9_phraseOf_106 rfl (lv_at hl 2 rfl) ?_
            refine lv_aload_n hx hb dX9_phraseOf_107 rfl (lv_at hl 2 rfl) ?_
            refine lv_iload_n hx hb dX9_phraseOf_108 rfl (lv_at hl 3 rfl) ?_
            refine lv_iload hx hb dX9_phraseOf_109 (lv_at hl 1 rfl) ?_
            refine lv_iload hx hb dX9_phraseOf_111 (lv_at hl 0 rfl) ?_
            refine z_iadd hx hb dX9_phraseOf_113 ?_
            refine z_iconst hx hb dX9_phraseOf_114 ?_
            refine z_iadd hx hb dX9_phraseOf_115 ?_
            refine ct_Vi (VG_fix E cI cC) hZo hZb hZ S0 (kX9_objectAt l D E cI cC Z hZo hZb M table (((fX9_beginOf M table phrase) + (fX9_subjectsFrom M table (fX9_beginOf M table phrase))) + (1)) (by omega) (by omega) hG (fX9_objectAt M table (((fX9_beginOf M table phrase) + (fX9_subjectsFrom M table (fX9_beginOf M table phrase))) + (1))) rfl) (cwV 2 hts gX9_phraseOf_X9_objectAt rfl rfl rfl (by decide +kernel) ⟨(Nat.le_of_ble_eq_true rfl), (Nat.le_of_ble_eq_true rfl)⟩) hK hP hD hS rfl rfl VG_0 rfl hl.1 rfl (Nat.le_of_ble_eq_true rfl) dX9_phraseOf_116 ⟨Nat.zero_le _, Nat.zero_le _⟩ (fun H locs hP hD hS => ?_)
            refine ct_Vi (VG_fix E cI cC) hZo hZb hZ S0 (kX9_done l D E cI cC Z hZo hZb M (fX9_objectAt M table (((fX9_beginOf M table phrase) + (fX9_subjectsFrom M table (fX9_beginOf M table phrase))) + (1)))  (fX9_done M (fX9_objectAt M table (((fX9_beginOf M table phrase) + (fX9_subjectsFrom M table (fX9_beginOf M table phrase))) + (1)))).1 (fX9_done M (fX9_objectAt M table (((fX9_beginOf M table phrase) + (fX9_subjectsFrom M table (fX9_beginOf M table phrase))) + (1)))).2 (Prod.ext rfl rfl)) (cwV 1 hts gX9_phraseOf_X9_done rfl rfl rfl (by decide +kernel) ⟨(Nat.le_of_ble_eq_true rfl), (Nat.le_of_ble_eq_true rfl)⟩) hK hP hD hS rfl rfl VG_0 rfl hl.1 rfl (Nat.le_of_ble_eq_true rfl) dX9_phraseOf_119 ⟨Nat.zero_le _, Nat.zero_le _⟩ (fun H locs hP hD hS => ?_)
            obtain ⟨e1, e2⟩ := Prod.mk.inj hE
            subst e2
            exact ci_i hx hb hr hlocks e1 rfl hS hP dX9_phraseOf_122
          · rw [if_neg b11] at hE
            by_cases b12 : (what = 3)
            · rw [if_pos b12] at hE
              refine z_table hx hb dX9_phraseOf_52 (k0 := 3) (tgt := 123) (by omega) b12 (by decide) (by decide) rfl rfl ?_
              refine lv_aload_n hx hb dX9_phraseOf_123 rfl (lv_at hl 2 rfl) ?_
              refine lv_aload_n hx hb dX9_phraseOf_124 rfl (lv_at hl 2 rfl) ?_
              refine lv_iload_n hx hb dX9_phraseOf_125 rfl (lv_at hl 3 rfl) ?_
              refine lv_iload hx hb dX9_phraseOf_126 (lv_at hl 1 rfl) ?_
              refine lv_iload hx hb dX9_phraseOf_128 (lv_at hl 0 rfl) ?_
              refine ct_Vi (VG_fix E cI cC) hZo hZb hZ S0 (kX9_doAgree l D E cI cC Z hZo hZb M table (fX9_beginOf M table phrase) (fX9_subjectsFrom M table (fX9_beginOf M table phrase)) (by omega) (by omega) (by omega) (by omega) hG (fX9_doAgree M table (fX9_beginOf M table phrase) (fX9_subjectsFrom M table (fX9_beginOf M table phrase))) rfl) (cwV 3 hts gX9_phraseOf_X9_doAgree rfl rfl rfl (by decide +kernel) ⟨(Nat.le_of_ble_eq_true rfl), (Nat.le_of_ble_eq_true rfl)⟩) hK hP hD hS rfl rfl VG_0 rfl hl.1 rfl (Nat.le_of_ble_eq_true rfl) dX9_phraseOf_130 ⟨Nat.zero_le _, Nat.zero_le _⟩ (fun H locs hP hD hS => ?_)
              have q13 := bX9_doAgree M table (fX9_beginOf M table phrase) (fX9_subjectsFrom M table (fX9_beginOf M table phrase))
              refine z_if_eq hx hb dX9_phraseOf_133 (tgt := 140) rfl (by omega) (fun b14 => ?_) (fun b14 => ?_)
              · rw [if_pos b14] at hE
                refine z_iconst hx hb dX9_phraseOf_140 ?_
                refine ct_Vi (VG_fix E cI cC) hZo hZb hZ S0 (kX9_done l D E cI cC Z hZo hZb M (0)  (fX9_done M (0)).1 (fX9_done M (0)).2 (Prod.ext rfl rfl)) (cwV 1 hts gX9_phraseOf_X9_done rfl rfl rfl (by decide +kernel) ⟨(Nat.le_of_ble_eq_true rfl), (Nat.le_of_ble_eq_true rfl)⟩) hK hP hD hS rfl rfl VG_0 rfl hl.1 rfl (Nat.le_of_ble_eq_true rfl) dX9_phraseOf_141 ⟨Nat.zero_le _, Nat.zero_le _⟩ (fun H locs hP hD hS => ?_)
                obtain ⟨e1, e2⟩ := Prod.mk.inj hE
                subst e2
                exact ci_i hx hb hr hlocks e1 rfl hS hP dX9_phraseOf_144
              · rw [if_neg b14] at hE
                refine z_iconst hx hb dX9_phraseOf_136 ?_
                refine lv_goto hx hb dX9_phraseOf_137 (tgt := 141) rfl ?_
                refine ct_Vi (VG_fix E cI cC) hZo hZb hZ S0 (kX9_done l D E cI cC Z hZo hZb M (1)  (fX9_done M (1)).1 (fX9_done M (1)).2 (Prod.ext rfl rfl)) (cwV 1 hts gX9_phraseOf_X9_done rfl rfl rfl (by decide +kernel) ⟨(Nat.le_of_ble_eq_true rfl), (Nat.le_of_ble_eq_true rfl)⟩) hK hP hD hS rfl rfl VG_0 rfl hl.1 rfl (Nat.le_of_ble_eq_true rfl) dX9_phraseOf_141 ⟨Nat.zero_le _, Nat.zero_le _⟩ (fun H locs hP hD hS => ?_)
                obtain ⟨e1, e2⟩ := Prod.mk.inj hE
                subst e2
                exact ci_i hx hb hr hlocks e1 rfl hS hP dX9_phraseOf_144
            · rw [if_neg b12] at hE
              refine z_tableD hx hb dX9_phraseOf_52 (tgt := 145) (by omega) (by omega) rfl ?_
              refine lv_aload_n hx hb dX9_phraseOf_145 rfl (lv_at hl 2 rfl) ?_
              refine z_iconst hx hb dX9_phraseOf_146 ?_
              refine ct_Vi (VG_fix E cI cC) hZo hZb hZ S0 (kX9_fails l D E cI cC Z hZo hZb M (3)  (fX9_fails M (3)).1 (fX9_fails M (3)).2 (Prod.ext rfl rfl)) (cwV 1 hts gX9_phraseOf_X9_fails rfl rfl rfl (by decide +kernel) ⟨(Nat.le_of_ble_eq_true rfl), (Nat.le_of_ble_eq_true rfl)⟩) hK hP hD hS rfl rfl VG_0 rfl hl.1 rfl (Nat.le_of_ble_eq_true rfl) dX9_phraseOf_147 ⟨Nat.zero_le _, Nat.zero_le _⟩ (fun H locs hP hD hS => ?_)
              obtain ⟨e1, e2⟩ := Prod.mk.inj hE
              subst e2
              exact ci_i hx hb hr hlocks e1 rfl hS hP dX9_phraseOf_150
    · rw [if_pos b5] at hE
      refine lv_aload_n hx hb dX9_phraseOf_28 rfl (lv_at hl 0 rfl) ?_
      refine z_iconst hx hb dX9_phraseOf_29 ?_
      refine ct_Vi (VG_fix E cI cC) hZo hZb hZ S0 (kX9_fails l D E cI cC Z hZo hZb M (2)  (fX9_fails M (2)).1 (fX9_fails M (2)).2 (Prod.ext rfl rfl)) (cwV 1 hts gX9_phraseOf_X9_fails rfl rfl rfl (by decide +kernel) ⟨(Nat.le_of_ble_eq_true rfl), (Nat.le_of_ble_eq_true rfl)⟩) hK hP hD hS rfl rfl VG_0 rfl hl.1 rfl (Nat.le_of_ble_eq_true rfl) dX9_phraseOf_30 ⟨Nat.zero_le _, Nat.zero_le _⟩ (fun H locs hP hD hS => ?_)
      obtain ⟨e1, e2⟩ := Prod.mk.inj hE
      subst e2
      exact ci_i hx hb hr hlocks e1 rfl hS hP dX9_phraseOf_33
  · rw [if_pos b2] at hE
    refine lv_aload_n hx hb dX9_phraseOf_7 rfl (lv_at hl 0 rfl) ?_
    refine z_iconst hx hb dX9_phraseOf_8 ?_
    refine ct_Vi (VG_fix E cI cC) hZo hZb hZ S0 (kX9_fails l D E cI cC Z hZo hZb M (1)  (fX9_fails M (1)).1 (fX9_fails M (1)).2 (Prod.ext rfl rfl)) (cwV 1 hts gX9_phraseOf_X9_fails rfl rfl rfl (by decide +kernel) ⟨(Nat.le_of_ble_eq_true rfl), (Nat.le_of_ble_eq_true rfl)⟩) hK hP hD hS rfl rfl VG_0 rfl hl.1 rfl (Nat.le_of_ble_eq_true rfl) dX9_phraseOf_9 ⟨Nat.zero_le _, Nat.zero_le _⟩ (fun H locs hP hD hS => ?_)
    obtain ⟨e1, e2⟩ := Prod.mk.inj hE
    subst e2
    exact ci_i hx hb hr hlocks e1 rfl hS hP dX9_phraseOf_12

theorem fr_fX9_phraseOf {M : Mem} (table phrase what : Int) {r : Nat} (h23 : Nat.beq r 23 = false) (h26 : Nat.beq r 26 = false) : (fX9_phraseOf M table phrase what).2 r = M r := by
  unfold fX9_phraseOf
  (repeat' with_reducible refine frite_w (fun _ => ?_) (fun _ => ?_)) <;> first | with_reducible rfl | simp only [mst_o, msf_o, mcp_o, fr_fX9_done, fr_fX9_fails, h23, h26]
