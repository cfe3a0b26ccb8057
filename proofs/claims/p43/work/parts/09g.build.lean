/-! THE LAW'S METHODS at and build (written by mk09g.py). -/
def sc (xs : Nat → Int32) (j : Int) : Int := (xs j.toNat).toInt
theorem sc_r (xs : Nat → Int32) (j : Int) : I32 (sc xs j) := I32_x _
theorem sc_i (xs : Nat → Int32) (j : Int) : iI (sc xs j) = xs j.toNat := iI_x _
def sAt (xs : Nat → Int32) (L : Nat) (j : Int) : Int := if j < L then sc xs j else 0
theorem sAt_r (xs : Nat → Int32) (L : Nat) (j : Int) : I32 (sAt xs L j) := by
  unfold sAt
  split
  · exact sc_r xs j
  · exact (by decide)
def VN : Mem → va_W := fun _ => []
def ZX (b L : Nat) (xs : Nat → Int32) (U : State) : Prop := va_X b L xs U U.heap ∧ b < U.heap.size
theorem ZX_bl (b L : Nat) (xs : Nat → Int32) : ZBl (ZX b L xs) := fun a U g mk h => ⟨va_X.moved (u := U) (U := U.calling g mk a) (Vm.Alike.refl U.vm) h.1, h.2⟩
theorem zand_3 (a : Int) : 0 ≤ zand a 3 ∧ zand a 3 ≤ 3 := by
  have h : (iI a &&& iI 3).toInt = ((iI a &&& iI 3).toBitVec.toNat : Int) ∧ (iI a &&& iI 3).toBitVec.toNat ≤ 3 := by
    have e : (iI a &&& iI 3).toBitVec = (iI a).toBitVec &&& 3#32 := rfl
    have h2 : ((iI a).toBitVec &&& 3#32).toNat ≤ 3 := by
      rw [BitVec.toNat_and]
      exact Nat.and_le_right
    rw [e]
    refine ⟨?_, h2⟩
    show ((iI a).toBitVec &&& 3#32).toInt = _
    rw [BitVec.toInt_eq_toNat_of_lt]
    omega
  unfold zand
  omega
theorem zand_1 (a : Int) : 0 ≤ zand a 1 ∧ zand a 1 ≤ 1 := by
  have h : (iI a &&& iI 1).toInt = ((iI a &&& iI 1).toBitVec.toNat : Int) ∧ (iI a &&& iI 1).toBitVec.toNat ≤ 1 := by
    have e : (iI a &&& iI 1).toBitVec = (iI a).toBitVec &&& 1#32 := rfl
    have h2 : ((iI a).toBitVec &&& 1#32).toNat ≤ 1 := by
      rw [BitVec.toNat_and]
      exact Nat.and_le_right
    rw [e]
    refine ⟨?_, h2⟩
    show ((iI a).toBitVec &&& 1#32).toInt = _
    rw [BitVec.toInt_eq_toNat_of_lt]
    omega
  unfold zand
  omega
theorem zand_7 (a : Int) : 0 ≤ zand a 7 ∧ zand a 7 ≤ 7 := by
  have h : (iI a &&& iI 7).toInt = ((iI a &&& iI 7).toBitVec.toNat : Int) ∧ (iI a &&& iI 7).toBitVec.toNat ≤ 7 := by
    have e : (iI a &&& iI 7).toBitVec = (iI a).toBitVec &&& 7#32 := rfl
    have h2 : ((iI a).toBitVec &&& 7#32).toNat ≤ 7 := by
      rw [BitVec.toNat_and]
      exact Nat.and_le_right
    rw [e]
    refine ⟨?_, h2⟩
    show ((iI a).toBitVec &&& 7#32).toInt = _
    rw [BitVec.toInt_eq_toNat_of_lt]
    omega
  unfold zand
  omega
theorem zand_15 (a : Int) : 0 ≤ zand a 15 ∧ zand a 15 ≤ 15 := by
  have h : (iI a &&& iI 15).toInt = ((iI a &&& iI 15).toBitVec.toNat : Int) ∧ (iI a &&& iI 15).toBitVec.toNat ≤ 15 := by
    have e : (iI a &&& iI 15).toBitVec = (iI a).toBitVec &&& 15#32 := rfl
    have h2 : ((iI a).toBitVec &&& 15#32).toNat ≤ 15 := by
      rw [BitVec.toNat_and]
      exact Nat.and_le_right
    rw [e]
    refine ⟨?_, h2⟩
    show ((iI a).toBitVec &&& 15#32).toInt = _
    rw [BitVec.toInt_eq_toNat_of_lt]
    omega
  unfold zand
  omega
set_option maxRecDepth 100000 in
set_option maxHeartbeats 4000000 in
theorem kL_at (l : Launch) (D : va_G) (tys : List (ClassId × FieldType)) (b L : Nat) (xs : Nat → Int32) (hL : L ≤ 260) (k : Int) (hk : 0 ≤ k ∧ k < 100) (M : Mem) : Cn l yL_at wsL_at 2 60 0 [.ref b, .int (iI k)] D tys VN (ZX b L xs) M (some (.int (iI (sAt xs L k)))) M := by
  refine Cn.of (cc := cL_at) (maxL := 2) (ret := (some .int)) (by decide +kernel) rfl (Nat.le_of_ble_eq_true rfl) ?_
  intro p e s m args below meth c ls hx hb hml hr hown hts hlocks hP hK hD hZ hS hl
  have hl : lv_has ls 2 [(0, .ref b), (1, .int (iI k))] := hl
  refine lv_iload_n hx hb dL_at_0 rfl (lv_at hl 1 rfl) ?_
  refine lv_aload_n hx hb dL_at_1 rfl (lv_at hl 0 rfl) ?_
  refine va_slen hx hb hZ.1 hZ.2 List.not_mem_nil hS dL_at_2 ?_
  rw [show Int32.ofNat L = iI (L : Int) from iI_nI L]
  refine z_icmp_ge hx hb dL_at_3 (tgt := 12) rfl ⟨by omega, by omega⟩ ⟨by omega, by omega⟩ (fun h => ?_) (fun h => ?_)
  · refine z_iconst hx hb dL_at_12 ?_
    exact cn_i hx hb hr hlocks (by unfold sAt; rw [if_neg (by omega)]) rfl hS hP (by omega) (by omega) dL_at_13
  · refine lv_aload_n hx hb dL_at_6 rfl (lv_at hl 0 rfl) ?_
    refine lv_iload_n hx hb dL_at_7 rfl (lv_at hl 1 rfl) ?_
    refine va_sld hx hb hZ.1 hZ.2 List.not_mem_nil hS (iI_in hk.1 (by omega) (by omega)) dL_at_8 ?_
    rw [iI_cl ⟨by omega, by omega⟩, ← sc_i xs k]
    refine lv_goto (tgt := 13) hx hb dL_at_9 (by decide) ?_
    exact cn_i hx hb hr hlocks (by unfold sAt; rw [if_pos (by omega)]) rfl hS hP (by omega) (by omega) dL_at_13
/-- what a change leaves -/
def cM (M : Mem) (co a b d : Int) : Mem := (fX8_change M co a b d).2.2
theorem ans_2 (x : Int × Int × Mem) : (fL_ans x).2 = x.2.2 := by
  unfold fL_ans
  (repeat' split) <;> rfl
theorem cM_KI {M : Mem} (hC : CI M) (hQ : SI M) (hT : TI M) (hH : HN M) (co a b d : Int) : CI (cM M co a b d) ∧ SI (cM M co a b d) ∧ TI (cM M co a b d) ∧ HN (cM M co a b d) := by
  have j0 : (fX5_judge M co a b d).2 0 = M 0 := judge_0 M co a b d
  have jC : CI (fX5_judge M co a b d).2 := CI_of0 j0 hC
  have jQ : SI (fX5_judge M co a b d).2 := SI_judge hC hQ co a b d
  have jr : ∀ r : Nat, r ≠ 1 → r ≠ 2 → r ≠ 3 → r ≠ 4 → r ≠ 7 → (fX5_judge M co a b d).2 r = M r := fun r h1 h2 h3 h4 h7 => fr_fX5_judge co a b d (beq_f h1) (beq_f h2) (beq_f h3) (beq_f h4) (beq_f h7)
  have jT : TI (fX5_judge M co a b d).2 := by
    unfold TI at *
    rw [jr 10 (by decide) (by decide) (by decide) (by decide) (by decide), jr 11 (by decide) (by decide) (by decide) (by decide) (by decide)]
    exact hT
  have jH : HN (fX5_judge M co a b d).2 := by
    unfold HN at *
    rw [jr 9 (by decide) (by decide) (by decide) (by decide) (by decide)]
    exact hH
  unfold cM fX8_change
  split
  · exact ⟨jC, jQ, jT, jH⟩
  split
  · exact ⟨jC, jQ, jT, jH⟩
  split
  · rename_i hj
    generalize (fX5_judge M co a b d).2 = N at j0 jC jQ jT jH
    have p0 : (fX2_push (fX6_copyTo_b N)) 0 = N 0 := fr_fX2_push rfl rfl
    have pr : ∀ r : Nat, r ≠ 8 → r ≠ 9 → r ≠ 14 → (fX2_push (fX6_copyTo_b N)) r = N r := fun r h8 h9 h14 => (fr_fX2_push (beq_f h8) (beq_f h9)).trans (fr_fX6_copyTo_b (beq_f h14))
    have pC : CI (fX2_push (fX6_copyTo_b N)) := CI_of0 p0 jC
    have pQ : SI (fX2_push (fX6_copyTo_b N)) := SI_of (pr 1 (by decide) (by decide) (by decide)) (pr 2 (by decide) (by decide) (by decide)) (pr 3 (by decide) (by decide) (by decide)) (pr 4 (by decide) (by decide) (by decide)) (pr 7 (by decide) (by decide) (by decide)) jQ
    have cr : ∀ r : Nat, r ≠ 0 → r ≠ 1 → r ≠ 2 → r ≠ 3 → r ≠ 4 → r ≠ 7 → (fX5_carryOut (fX2_push (fX6_copyTo_b N)) co a b d).2 r = (fX2_push (fX6_copyTo_b N)) r := fun r h0 h1 h2 h3 h4 h7 => fr_fX5_carryOut co a b d (beq_f h0) (beq_f h1) (beq_f h2) (beq_f h3) (beq_f h4) (beq_f h7)
    refine ⟨CI_carryOut hC (p0.trans j0) hj, SI_carryOut pC pQ co a b d, ?_, ?_⟩
    · unfold TI at *
      show ((0 : Int) ≤ (fX5_carryOut (fX2_push (fX6_copyTo_b N)) co a b d).2 11 0 ∧ (fX5_carryOut (fX2_push (fX6_copyTo_b N)) co a b d).2 11 0 ≤ 60) ∧ ∀ j : Int, 0 ≤ j → j < 60 → 0 ≤ (fX5_carryOut (fX2_push (fX6_copyTo_b N)) co a b d).2 10 j ∧ (fX5_carryOut (fX2_push (fX6_copyTo_b N)) co a b d).2 10 j < 65536
      rw [cr 10 (by decide) (by decide) (by decide) (by decide) (by decide) (by decide), cr 11 (by decide) (by decide) (by decide) (by decide) (by decide) (by decide), pr 10 (by decide) (by decide) (by decide), pr 11 (by decide) (by decide) (by decide)]
      exact jT
    · have h9 : HN (fX6_copyTo_b N) := by
        unfold HN at *
        rw [show (fX6_copyTo_b N) 9 = N 9 from fr_fX6_copyTo_b rfl]
        exact jH
      have h9 := HN_push h9
      unfold HN at *
      show 0 ≤ (fX5_carryOut (fX2_push (fX6_copyTo_b N)) co a b d).2 9 0 ∧ (fX5_carryOut (fX2_push (fX6_copyTo_b N)) co a b d).2 9 0 ≤ 8
      rw [cr 9 (by decide) (by decide) (by decide) (by decide) (by decide) (by decide)]
      exact h9
  · refine ⟨?_, ?_, ?_, ?_⟩
    · exact CI_of0 rfl jC
    · exact SI_of rfl rfl rfl rfl rfl jQ
    · exact jT
    · exact jH
theorem napkin_m (M : Mem) (a : Int) : (fX8_napkin M a).2.2 = cM M 0 a 0 0 := by
  unfold fX8_napkin cM
  split <;> rfl
theorem kA_0 (l : Launch) (hst : l.stackTraces = false) (D : va_G) (E : Nat → Nat) (cI cC : ClassId) (T : Nat → Nat) (M : Mem) (a b d : Int) (ha : I32 a) (hC : CI M) (hQ : SI M) (hH : HN M) : Cn l yL_act wsL_act 20 400 1 [.ref (E 0), .int (iI 0), .int (iI a), .int (iI b), .int (iI d)] D (TY cI cC) (VC E cI cC) (ZL E cI cC T) M (some (.int (iI (fL_ans (fX8_napkin M a)).1))) (cM M 0 a 0 0) := by
  have h := kL_act_0 l hst D E cI cC T M a b d ha hC hQ hH
  rw [ans_2, napkin_m] at h
  exact h
theorem fold_m (M : Mem) (a b : Int) : (fX8_fold M a b).2.2 = cM M 1 a b 0 := by
  unfold fX8_fold cM
  split <;> rfl
theorem kA_1 (l : Launch) (hst : l.stackTraces = false) (D : va_G) (E : Nat → Nat) (cI cC : ClassId) (T : Nat → Nat) (M : Mem) (a b d : Int) (ha : I32 a) (hb : I32 b) (hC : CI M) (hQ : SI M) (hH : HN M) : Cn l yL_act wsL_act 20 400 1 [.ref (E 0), .int (iI 1), .int (iI a), .int (iI b), .int (iI d)] D (TY cI cC) (VC E cI cC) (ZL E cI cC T) M (some (.int (iI (fL_ans (fX8_fold M a b)).1))) (cM M 1 a b 0) := by
  have h := kL_act_1 l hst D E cI cC T M a b d ha hb hC hQ hH
  rw [ans_2, fold_m] at h
  exact h
theorem unfold_m (M : Mem) (a : Int) : (fX8_unfold M a).2.2 = cM M 2 a 0 0 := by
  unfold fX8_unfold cM
  split <;> rfl
theorem kA_2 (l : Launch) (hst : l.stackTraces = false) (D : va_G) (E : Nat → Nat) (cI cC : ClassId) (T : Nat → Nat) (M : Mem) (a b d : Int) (ha : I32 a) (hC : CI M) (hQ : SI M) (hH : HN M) : Cn l yL_act wsL_act 20 400 1 [.ref (E 0), .int (iI 2), .int (iI a), .int (iI b), .int (iI d)] D (TY cI cC) (VC E cI cC) (ZL E cI cC T) M (some (.int (iI (fL_ans (fX8_unfold M a)).1))) (cM M 2 a 0 0) := by
  have h := kL_act_2 l hst D E cI cC T M a b d ha hC hQ hH
  rw [ans_2, unfold_m] at h
  exact h
theorem lay_m (M : Mem) (a b : Int) : (fX8_lay M a b).2.2 = cM M 6 a b 0 := by
  unfold fX8_lay cM
  split <;> rfl
theorem kA_3 (l : Launch) (hst : l.stackTraces = false) (D : va_G) (E : Nat → Nat) (cI cC : ClassId) (T : Nat → Nat) (M : Mem) (a b d : Int) (ha : I32 a) (hb : I32 b) (hC : CI M) (hQ : SI M) (hH : HN M) : Cn l yL_act wsL_act 20 400 1 [.ref (E 0), .int (iI 3), .int (iI a), .int (iI b), .int (iI d)] D (TY cI cC) (VC E cI cC) (ZL E cI cC T) M (some (.int (iI (fL_ans (fX8_lay M a b)).1))) (cM M 6 a b 0) := by
  have h := kL_act_3 l hst D E cI cC T M a b d ha hb hC hQ hH
  rw [ans_2, lay_m] at h
  exact h
theorem take_m (M : Mem) (a : Int) : (fX8_take M a).2.2 = cM M 3 a 0 0 := by
  unfold fX8_take cM
  split <;> rfl
theorem kA_4 (l : Launch) (hst : l.stackTraces = false) (D : va_G) (E : Nat → Nat) (cI cC : ClassId) (T : Nat → Nat) (M : Mem) (a b d : Int) (ha : I32 a) (hC : CI M) (hQ : SI M) (hH : HN M) : Cn l yL_act wsL_act 20 400 1 [.ref (E 0), .int (iI 4), .int (iI a), .int (iI b), .int (iI d)] D (TY cI cC) (VC E cI cC) (ZL E cI cC T) M (some (.int (iI (fL_ans (fX8_take M a)).1))) (cM M 3 a 0 0) := by
  have h := kL_act_4 l hst D E cI cC T M a b d ha hC hQ hH
  rw [ans_2, take_m] at h
  exact h
theorem move_m (M : Mem) (a b d : Int) : (fX8_move M a b d).2.2 = cM M 7 a b d := by
  unfold fX8_move cM
  split <;> rfl
theorem kA_5 (l : Launch) (hst : l.stackTraces = false) (D : va_G) (E : Nat → Nat) (cI cC : ClassId) (T : Nat → Nat) (M : Mem) (a b d : Int) (ha : I32 a) (hb : I32 b) (hd : I32 d) (hC : CI M) (hQ : SI M) (hH : HN M) : Cn l yL_act wsL_act 20 400 1 [.ref (E 0), .int (iI 5), .int (iI a), .int (iI b), .int (iI d)] D (TY cI cC) (VC E cI cC) (ZL E cI cC T) M (some (.int (iI (fL_ans (fX8_move M a b d)).1))) (cM M 7 a b d) := by
  have h := kL_act_5 l hst D E cI cC T M a b d ha hb hd hC hQ hH
  rw [ans_2, move_m] at h
  exact h
theorem stain_m (M : Mem) (a b : Int) : (fX8_stain M a b).2.2 = cM M 8 a b 0 := by
  unfold fX8_stain cM
  split <;> rfl
theorem kA_6 (l : Launch) (hst : l.stackTraces = false) (D : va_G) (E : Nat → Nat) (cI cC : ClassId) (T : Nat → Nat) (M : Mem) (a b d : Int) (ha : I32 a) (hb : I32 b) (hC : CI M) (hQ : SI M) (hH : HN M) : Cn l yL_act wsL_act 20 400 1 [.ref (E 0), .int (iI 6), .int (iI a), .int (iI b), .int (iI d)] D (TY cI cC) (VC E cI cC) (ZL E cI cC T) M (some (.int (iI (fL_ans (fX8_stain M a b)).1))) (cM M 8 a b 0) := by
  have h := kL_act_6 l hst D E cI cC T M a b d ha hb hC hQ hH
  rw [ans_2, stain_m] at h
  exact h
theorem wash_m (M : Mem) (a : Int) : (fX8_wash M a).2.2 = cM M 4 a 0 0 := by
  unfold fX8_wash cM
  split <;> rfl
theorem kA_7 (l : Launch) (hst : l.stackTraces = false) (D : va_G) (E : Nat → Nat) (cI cC : ClassId) (T : Nat → Nat) (M : Mem) (a b d : Int) (ha : I32 a) (hC : CI M) (hQ : SI M) (hH : HN M) : Cn l yL_act wsL_act 20 400 1 [.ref (E 0), .int (iI 7), .int (iI a), .int (iI b), .int (iI d)] D (TY cI cC) (VC E cI cC) (ZL E cI cC T) M (some (.int (iI (fL_ans (fX8_wash M a)).1))) (cM M 4 a 0 0) := by
  have h := kL_act_7 l hst D E cI cC T M a b d ha hC hQ hH
  rw [ans_2, wash_m] at h
  exact h
theorem host_m (M : Mem) (a : Int) : (fX8_host M a).2.2 = cM M 5 a 0 0 := by
  unfold fX8_host cM
  split <;> rfl
theorem kA_8 (l : Launch) (hst : l.stackTraces = false) (D : va_G) (E : Nat → Nat) (cI cC : ClassId) (T : Nat → Nat) (M : Mem) (a b d : Int) (ha : I32 a) (hC : CI M) (hQ : SI M) (hH : HN M) : Cn l yL_act wsL_act 20 400 1 [.ref (E 0), .int (iI 8), .int (iI a), .int (iI b), .int (iI d)] D (TY cI cC) (VC E cI cC) (ZL E cI cC T) M (some (.int (iI (fL_ans (fX8_host M a)).1))) (cM M 5 a 0 0) := by
  have h := kL_act_8 l hst D E cI cC T M a b d ha hC hQ hH
  rw [ans_2, host_m] at h
  exact h
theorem em_I (x : Int) {np : Int} (h : 1 ≤ np ∧ np ≤ 10) : I32 (x % np) := by
  have a := Int.emod_nonneg x (show np ≠ 0 by omega)
  have b := Int.emod_lt_of_pos x (show 0 < np by omega)
  exact ⟨by omega, by omega⟩
def fB1 (z : Int) : Nat → Int → Mem → Mem
  | 0, _, M => M
  | f + 1, k, M => fB1 z f (k + 1) (cM M 0 (zand (zshr z (2 + (2 * k))) 3) 0 0)
def fB2 (z : Int) : Nat → Int → Mem → Mem
  | 0, _, M => M
  | f + 1, k, M => fB2 z f (k + 1) (cM M 1 k (1 + (zand (zshr z (16 + (2 * k))) 1)) 0)
def fBs1 (c np : Int) (M : Mem) : Mem := (cM M 1 ((zand c 15) % np) (1 + (zand (zshr c 4) 3)) 0)
def fBs2 (c np : Int) (M : Mem) : Mem := (cM M 6 ((zand (zshr c 6) 15) % np) (if (zand (zshr c 10) 3) = 3 then 1 else 0) 0)
def fBs3 (c np : Int) (M : Mem) : Mem := if (zand (zshr c 12) 3) = 0 then (cM M 1 ((zand (zshr c 14) 15) % np) (1 + (zand (zshr c 18) 1)) 0) else M
def fBs4 (c np : Int) (M : Mem) : Mem := if (zand (zshr c 12) 7) = 1 then (cM M 2 ((zand (zshr c 15) 15) % np) 0 0) else M
def fBs5 (c np : Int) (M : Mem) : Mem := if (zand (zshr c 12) 7) = 2 then (cM M 3 ((zand (zshr c 15) 15) % np) 0 0) else M
def fBs6 (c np : Int) (M : Mem) : Mem := if (zand (zshr c 12) 7) = 3 then (cM M 8 ((zand (zshr c 15) 15) % np) (1 + (zand (zshr c 19) 3)) 0) else M
def fBs7 (c np : Int) (M : Mem) : Mem := if (zand (zshr c 12) 7) = 5 then (cM M 4 ((zand (zshr c 15) 15) % np) 0 0) else M
def fBs8 (c np : Int) (M : Mem) : Mem := if (zand (zshr c 12) 7) = 6 then (cM M 5 (zand (zshr c 15) 1) 0 0) else M
def fBs9 (c np : Int) (M : Mem) : Mem := if (zand (zshr c 12) 7) = 7 then (cM M 7 (zand (zshr c 15) 1) ((zand (zshr c 16) 7) % 6) ((zand (zshr c 19) 7) % 6)) else M
def fBs10 (c np : Int) (M : Mem) : Mem := if (zand (zshr c 22) 3) = 0 then (cM M 0 (zand (zshr c 24) 3) 0 0) else M
def fBt (c : Int) (M : Mem) : Mem := fBs10 c (zmax 1 (M 0 77)) (fBs9 c (zmax 1 (M 0 77)) (fBs8 c (zmax 1 (M 0 77)) (fBs7 c (zmax 1 (M 0 77)) (fBs6 c (zmax 1 (M 0 77)) (fBs5 c (zmax 1 (M 0 77)) (fBs4 c (zmax 1 (M 0 77)) (fBs3 c (zmax 1 (M 0 77)) (fBs2 c (zmax 1 (M 0 77)) (fBs1 c (zmax 1 (M 0 77)) M)))))))))
def fB3 (xs : Nat → Int32) (L : Nat) : Nat → Int → Mem → Mem
  | 0, _, M => M
  | f + 1, k, M => fB3 xs L f (k + 1) (fBt (sAt xs L k) M)
def fL_build (xs : Nat → Int32) (L : Nat) : Mem := fB3 xs L 12 1 (fB2 (sAt xs L 0) 3 0 (fB1 (sAt xs L 0) (3 + zand (sAt xs L 0) 3).toNat 0 M0c))
theorem KI_0 : CI M0c ∧ SI M0c ∧ TI M0c ∧ HN M0c := by
  refine ⟨?_, ?_, ?_, ?_⟩
  · unfold CI M0c
    simp
  · unfold SI M0c
    simp
  · unfold TI M0c
    simp
  · unfold HN M0c
    simp
section
variable {p : Program} {l : Launch} {e : Env} {R : Room} {s : State} {m : MethodId} {args : Array Value} {below : List Frame} {meth : Method} {c : Code} {H : Heap} {locs : List Loc} {cells slots : Nat} {Q : State → Prop}
variable {cc : ByteArray} {pc : Nat} {ls : Array Slot} {rest : List Value}
variable {D : va_G} {A : Nat → Prop} {E : Nat → Nat} {cI cC : ClassId} {T : Nat → Nat}
theorem lb_ZC {M : Mem} {W0 : va_W} (hZ : ZA T A s) (hD : va_D A W0) (hin : ∀ q, wA (VC E cI cC M) q → wA W0 q) (hS : va_S A s.heap H locs) (U : State) (hU : U.heap = H) (hW : s.WarmedH U.vm) : ZC E cI cC T U :=
  ZA_narrow (fun q hq => wA_in hD q (hin q (by rw [ZC_A]; exact hq))) (ZA_keep hW (fun q h1 h2 => by rw [hU]; exact hS.2.1 q h1 h2) hZ)
theorem lb_ZL {M : Mem} {W0 : va_W} (hZ : ZA T A s) (hN : NcF s) (hD : va_D A W0) (hin : ∀ q, wA (VC E cI cC M) q → wA W0 q) (hS : va_S A s.heap H locs) (U : State) (hU : U.heap = H) (hW : s.WarmedH U.vm) : ZL E cI cC T U := ⟨lb_ZC hZ hD hin hS U hU hW, hN.warm hW⟩
theorem lb_ZX {b L : Nat} {xs : Nat → Int32} (hX : ZX b L xs s) (hb : ¬ A b) (hS : va_S A s.heap H locs) (U : State) (hU : U.heap = H) (hW : s.WarmedH U.vm) : ZX b L xs U := by
  refine ⟨va_X.moved hW.alike (hX.1.kept ?_), ?_⟩
  · rw [hU]; exact hS.2.1 b hX.2 hb
  · rw [hU]; exact Nat.lt_of_lt_of_le hX.2 hS.1
/-- at, called beside any world -/
theorem l_at {index : Nat} {nL : Nat} {Ts : List Cond} {own : String} {W0 : va_W} {b L : Nat} {xs : Nat → Int32} {k : Int} (hL : L ≤ 260) (hk : 0 ≤ k ∧ k < 100) {tys : List (ClassId × FieldType)} (S0 : CallFix p m c cc nL s args Ts own) (cw : CallB R s args own index yL_at cL_at 2 (some .int) wsL_at (zRmx 2 60 0) 0 (6 * 0) 2 ∧ (Cond.static yL_at).before args s = true) (hX : ZX b L xs s) (hbA : ¬ A b) (hK : va_K D vwCl tys s) (hP : va_P D vwCl W0 H) (hD : va_D A W0) (hS : va_S A s.heap H locs) (hsize : ls.size = nL) (hcat : (rest.map fun v => v.category).sum ≤ 8) (hdg : decode cc pc = .ok (.invokestatic index, 3)) (hf : cells ≤ R.cells ∧ slots ≤ R.slots)
    (kk : ∀ (H1 : Heap) (locs1 : List Loc), va_P D vwCl W0 H1 → va_D A W0 → va_S A s.heap H1 locs1 → W p l e R s m args below meth c H1 locs1 cells slots Q (F0 m (pc + 3) ls (.int (iI (sAt xs L k)) :: rest))) : W p l e R s m args below meth c H locs cells slots Q (F0 m pc ls (.int (iI k) :: .ref b :: rest)) := by
  have hr := va_runS (e := e) (below := below) (meth := meth) (As := [.ref b, .int (iI k)]) (rest := rest) (H := H) (locs := locs) (cells := cells) (slots := slots) (g := F0 m pc ls ([Value.ref b, .int (iI k)].reverse ++ rest)) S0 (kL_at l D tys b L xs hL k hk M0c) cw ⟨wr_blind (ZX_bl b L xs), fun U hU hW => ⟨rfl, fun i q h => absurd h (by simp [VN]), va_K.moved hW.alike hK, ⟨fun i j p q h => absurd h (by simp [VN]), fun i q h => absurd h (by simp [VN])⟩, lb_ZX hX hbA hS U hU hW⟩⟩ rfl rfl hsize rfl (lv_room hcat) hdg hf
  intro T9 hT X
  obtain ⟨v, st₀, t, T', L9, h0, X', hL9, e1, e2, ⟨⟨hv, hB⟩, hz, hk9⟩, st⟩ := hr T9 hT X
  cases hv
  rw [h0] at hz hk9
  have hsame : ∀ q : Nat, q < H.size → T'.heap[q]? = H[q]? := fun q hq => by rw [e1]; exact hk9 q hq (by simp [VN, wA])
  obtain ⟨t2, a1, b1⟩ := kk T'.heap (locs ++ L9) (hP.kept (fun i q hi => hsame q.1 (vx_lt hP hi))) hD
    ⟨Nat.le_trans hS.1 (by rw [e1]; exact hz), fun q h1 h2 => by rw [hsame q (Nat.lt_of_lt_of_le h1 hS.1)]; exact hS.2.1 q h1 h2, fun q hq => by
      rcases List.mem_append.mp hq with h | h
      · exact hS.2.2 q h
      · exact absurd (hL9 q h) (by simp [VN, wA])⟩ T' rfl X'
  exact ⟨t2, st t2 a1, b1⟩
end
abbrev lA (s : State) : Nat → Prop := fun q => s.heap.size ≤ q
abbrev rmB : Room := { frames := 60, cells := 400, slots := 3500, locals := 1500 }
abbrev buQ (D : va_G) (cI cC : ClassId) (M' : Mem) (A : Nat → Prop) : Array Value → State → Outcome → State → Prop := va_Qr (S := Nat → Nat) (fun _ => True) (fun E a t => E 0 = a ∧ va_P D vwCl (VC E cI cC M') t.heap ∧ va_D A (VC E cI cC M')) A
abbrev buP (b L sz : Nat) (xs : Nat → Int32) (D : va_G) (cI cC : ClassId) (T : Nat → Nat) : Array Value → State → Prop := va_Pc [.ref b] (fun U => U.heap.size = sz ∧ va_K D vwCl (TY cI cC) U ∧ ZX b L xs U ∧ ZA T (fun q => sz ≤ q) U ∧ NcF U ∧ NsF U)
section
variable {p : Program} {l : Launch} {e : Env} {s : State} {m : MethodId} {args : Array Value} {below : List Frame} {meth : Method} {c : Code} {D : va_G} {E : Nat → Nat} {cI cC : ClassId} {T : Nat → Nat} {b L : Nat} {xs : Nat → Int32}
set_option maxRecDepth 100000 in
set_option maxHeartbeats 4000000 in
/-- a step of a turn: pc 168 to 205 -/
theorem lb_s3 (hx : p.tables.exec = Jvm.exec) (hb : c.code = cL_build) (S0 : CallFix p m c cL_build 7 s args wsL_build RL) (hts : ∀ w ∈ wsL_build, w.before args s = true) (hst : l.stackTraces = false) (hK : va_K D vwCl (TY cI cC) s) (hZ : ZA T (lA s) s) (hN : NcF s) {Q : State → Prop} {c9 np nk k z : Int} (hnp : 1 ≤ np ∧ np ≤ 10) {cells slots : Nat} (hc : cells + 1 ≤ 400) (hs : slots + 6 * 1 ≤ 3500) {M : Mem} (kont : (∀ (ls : Array Slot) (H : Heap) (locs : List Loc), lv_has ls 7 [(6, .int (iI nk)), (5, .int (iI np)), (4, .int (iI c9)), (3, .int (iI k)), (2, .int (iI z)), (1, .ref (E 0)), (0, .ref b)] → CI (fBs3 c9 np M) → SI (fBs3 c9 np M) → TI (fBs3 c9 np M) → HN (fBs3 c9 np M) → va_P D vwCl (VC E cI cC (fBs3 c9 np M)) H → va_D (lA s) (VC E cI cC (fBs3 c9 np M)) → va_S (lA s) s.heap H locs → W p l e rmB s m args below meth c H locs (cells + 1) (slots + 6 * 1) Q (F0 m 205 ls []))) {ls : Array Slot} {H : Heap} {locs : List Loc} (hl : lv_has ls 7 [(6, .int (iI nk)), (5, .int (iI np)), (4, .int (iI c9)), (3, .int (iI k)), (2, .int (iI z)), (1, .ref (E 0)), (0, .ref b)]) (hkC : CI M) (hkQ : SI M) (hkT : TI M) (hkH : HN M) (hP : va_P D vwCl (VC E cI cC M) H) (hD : va_D (lA s) (VC E cI cC M)) (hS : va_S (lA s) s.heap H locs) : W p l e rmB s m args below meth c H locs cells slots Q (F0 m 168 ls []) := by
  have q1 := zand_15 c9
  have q2 := zand_15 (zshr c9 6)
  have q3 := zand_15 (zshr c9 14)
  have q4 := zand_15 (zshr c9 15)
  have q5 := zand_3 (zshr c9 4)
  have q6 := zand_3 (zshr c9 10)
  have q7 := zand_3 (zshr c9 12)
  have q8 := zand_7 (zshr c9 12)
  have q9 := zand_1 (zshr c9 18)
  have q10 := zand_3 (zshr c9 19)
  have q11 := zand_1 (zshr c9 15)
  have q12 := zand_7 (zshr c9 16)
  have q13 := zand_7 (zshr c9 19)
  have q14 := zand_3 (zshr c9 22)
  have q15 := zand_3 (zshr c9 24)
  refine lv_iload hx hb dL_build_168 (lv_at hl 2 rfl) ?_
  refine z_bipush hx hb dL_build_170 (by decide +kernel) ?_
  refine z_ishr hx hb dL_build_172 ?_
  refine z_iconst hx hb dL_build_173 ?_
  refine z_iand hx hb dL_build_174 ?_
  refine z_if_ne hx hb dL_build_175 (tgt := 205) rfl ⟨by omega, by omega⟩ (fun h => ?_) (fun h => ?_)
  · have e9 : fBs3 c9 np M = M := by
      unfold fBs3
      rw [if_neg (by omega)]
    rw [e9] at kont
    exact W.widen (by omega) (by omega) (kont ls H locs hl hkC hkQ hkT hkH hP hD hS)
  · have e9 : fBs3 c9 np M = (cM M 1 ((zand (zshr c9 14) 15) % np) (1 + (zand (zshr c9 18) 1)) 0) := by
      unfold fBs3
      rw [if_pos (by omega)]
    rw [e9] at kont
    refine lv_aload_n hx hb dL_build_178 rfl (lv_at hl 5 rfl) ?_
    refine z_iconst hx hb dL_build_179 ?_
    refine lv_iload hx hb dL_build_180 (lv_at hl 2 rfl) ?_
    refine z_bipush hx hb dL_build_182 (by decide +kernel) ?_
    refine z_ishr hx hb dL_build_184 ?_
    refine z_bipush hx hb dL_build_185 (by decide +kernel) ?_
    refine z_iand hx hb dL_build_187 ?_
    refine lv_iload hx hb dL_build_188 (lv_at hl 1 rfl) ?_
    refine z_irem hx hb dL_build_190 (by omega) (by omega) (by omega) (by omega) ?_
    refine z_iconst hx hb dL_build_191 ?_
    refine lv_iload hx hb dL_build_192 (lv_at hl 2 rfl) ?_
    refine z_bipush hx hb dL_build_194 (by decide +kernel) ?_
    refine z_ishr hx hb dL_build_196 ?_
    refine z_iconst hx hb dL_build_197 ?_
    refine z_iand hx hb dL_build_198 ?_
    refine z_iadd hx hb dL_build_199 ?_
    refine z_iconst hx hb dL_build_200 ?_
    obtain ⟨k1C, k1Q, k1T, k1H⟩ := cM_KI hkC hkQ hkT hkH 1 ((zand (zshr c9 14) 15) % np) (1 + (zand (zshr c9 18) 1)) 0
    refine l1_SW (rest := []) (As := [.ref (E 0), .int (iI 1), .int (iI ((zand (zshr c9 14) 15) % np)), .int (iI (1 + (zand (zshr c9 18) 1))), .int (iI 0)]) (M := M) S0 (kA_1 l hst D E cI cC T M ((zand (zshr c9 14) 15) % np) (1 + (zand (zshr c9 18) 1)) 0 (em_I _ hnp) ⟨by omega, by omega⟩ hkC hkQ hkH) (vx_cwSW 5 hts gL_build_L_act rfl rfl rfl (by decide +kernel) ⟨(Nat.le_of_ble_eq_true rfl), (Nat.le_of_ble_eq_true rfl)⟩) (ZL_bl E cI cC T) (lb_ZL (M := M) hZ hN hD (fun _ h => h) hS) hK hP hD hS rfl hl.1 rfl (Nat.le_of_ble_eq_true rfl) dL_build_201 ⟨by show _ + 1 ≤ 400; omega, by show _ + 6 * 1 ≤ 3500; omega⟩ (fun H locs hP hD hS => ?_)
    refine lv_pop hx hb dL_build_204 rfl ?_
    exact kont ls H locs hl k1C k1Q k1T k1H hP hD hS
set_option maxRecDepth 100000 in
set_option maxHeartbeats 4000000 in
/-- a step of a turn: pc 205 to 236 -/
theorem lb_s4 (hx : p.tables.exec = Jvm.exec) (hb : c.code = cL_build) (S0 : CallFix p m c cL_build 7 s args wsL_build RL) (hts : ∀ w ∈ wsL_build, w.before args s = true) (hst : l.stackTraces = false) (hK : va_K D vwCl (TY cI cC) s) (hZ : ZA T (lA s) s) (hN : NcF s) {Q : State → Prop} {c9 np nk k z : Int} (hnp : 1 ≤ np ∧ np ≤ 10) {cells slots : Nat} (hc : cells + 1 ≤ 400) (hs : slots + 6 * 1 ≤ 3500) {M : Mem} (kont : (∀ (ls : Array Slot) (H : Heap) (locs : List Loc), lv_has ls 7 [(6, .int (iI nk)), (5, .int (iI np)), (4, .int (iI c9)), (3, .int (iI k)), (2, .int (iI z)), (1, .ref (E 0)), (0, .ref b)] → CI (fBs4 c9 np M) → SI (fBs4 c9 np M) → TI (fBs4 c9 np M) → HN (fBs4 c9 np M) → va_P D vwCl (VC E cI cC (fBs4 c9 np M)) H → va_D (lA s) (VC E cI cC (fBs4 c9 np M)) → va_S (lA s) s.heap H locs → W p l e rmB s m args below meth c H locs (cells + 1) (slots + 6 * 1) Q (F0 m 236 ls []))) {ls : Array Slot} {H : Heap} {locs : List Loc} (hl : lv_has ls 7 [(6, .int (iI nk)), (5, .int (iI np)), (4, .int (iI c9)), (3, .int (iI k)), (2, .int (iI z)), (1, .ref (E 0)), (0, .ref b)]) (hkC : CI M) (hkQ : SI M) (hkT : TI M) (hkH : HN M) (hP : va_P D vwCl (VC E cI cC M) H) (hD : va_D (lA s) (VC E cI cC M)) (hS : va_S (lA s) s.heap H locs) : W p l e rmB s m args below meth c H locs cells slots Q (F0 m 205 ls []) := by
  have q1 := zand_15 c9
  have q2 := zand_15 (zshr c9 6)
  have q3 := zand_15 (zshr c9 14)
  have q4 := zand_15 (zshr c9 15)
  have q5 := zand_3 (zshr c9 4)
  have q6 := zand_3 (zshr c9 10)
  have q7 := zand_3 (zshr c9 12)
  have q8 := zand_7 (zshr c9 12)
  have q9 := zand_1 (zshr c9 18)
  have q10 := zand_3 (zshr c9 19)
  have q11 := zand_1 (zshr c9 15)
  have q12 := zand_7 (zshr c9 16)
  have q13 := zand_7 (zshr c9 19)
  have q14 := zand_3 (zshr c9 22)
  have q15 := zand_3 (zshr c9 24)
  refine lv_iload hx hb dL_build_205 (lv_at hl 2 rfl) ?_
  refine z_bipush hx hb dL_build_207 (by decide +kernel) ?_
  refine z_ishr hx hb dL_build_209 ?_
  refine z_bipush hx hb dL_build_210 (by decide +kernel) ?_
  refine z_iand hx hb dL_build_212 ?_
  refine z_iconst hx hb dL_build_213 ?_
  refine z_icmp_ne hx hb dL_build_214 (tgt := 236) rfl ⟨by omega, by omega⟩ (by decide) (fun h => ?_) (fun h => ?_)
  · have e9 : fBs4 c9 np M = M := by
      unfold fBs4
      rw [if_neg (by omega)]
    rw [e9] at kont
    exact W.widen (by omega) (by omega) (kont ls H locs hl hkC hkQ hkT hkH hP hD hS)
  · have e9 : fBs4 c9 np M = (cM M 2 ((zand (zshr c9 15) 15) % np) 0 0) := by
      unfold fBs4
      rw [if_pos (by omega)]
    rw [e9] at kont
    refine lv_aload_n hx hb dL_build_217 rfl (lv_at hl 5 rfl) ?_
    refine z_iconst hx hb dL_build_218 ?_
    refine lv_iload hx hb dL_build_219 (lv_at hl 2 rfl) ?_
    refine z_bipush hx hb dL_build_221 (by decide +kernel) ?_
    refine z_ishr hx hb dL_build_223 ?_
    refine z_bipush hx hb dL_build_224 (by decide +kernel) ?_
    refine z_iand hx hb dL_build_226 ?_
    refine lv_iload hx hb dL_build_227 (lv_at hl 1 rfl) ?_
    refine z_irem hx hb dL_build_229 (by omega) (by omega) (by omega) (by omega) ?_
    refine z_iconst hx hb dL_build_230 ?_
    refine z_iconst hx hb dL_build_231 ?_
    obtain ⟨k2C, k2Q, k2T, k2H⟩ := cM_KI hkC hkQ hkT hkH 2 ((zand (zshr c9 15) 15) % np) 0 0
    refine l1_SW (rest := []) (As := [.ref (E 0), .int (iI 2), .int (iI ((zand (zshr c9 15) 15) % np)), .int (iI 0), .int (iI 0)]) (M := M) S0 (kA_2 l hst D E cI cC T M ((zand (zshr c9 15) 15) % np) 0 0 (em_I _ hnp) hkC hkQ hkH) (vx_cwSW 5 hts gL_build_L_act rfl rfl rfl (by decide +kernel) ⟨(Nat.le_of_ble_eq_true rfl), (Nat.le_of_ble_eq_true rfl)⟩) (ZL_bl E cI cC T) (lb_ZL (M := M) hZ hN hD (fun _ h => h) hS) hK hP hD hS rfl hl.1 rfl (Nat.le_of_ble_eq_true rfl) dL_build_232 ⟨by show _ + 1 ≤ 400; omega, by show _ + 6 * 1 ≤ 3500; omega⟩ (fun H locs hP hD hS => ?_)
    refine lv_pop hx hb dL_build_235 rfl ?_
    exact kont ls H locs hl k2C k2Q k2T k2H hP hD hS
set_option maxRecDepth 100000 in
set_option maxHeartbeats 4000000 in
/-- a step of a turn: pc 236 to 267 -/
theorem lb_s5 (hx : p.tables.exec = Jvm.exec) (hb : c.code = cL_build) (S0 : CallFix p m c cL_build 7 s args wsL_build RL) (hts : ∀ w ∈ wsL_build, w.before args s = true) (hst : l.stackTraces = false) (hK : va_K D vwCl (TY cI cC) s) (hZ : ZA T (lA s) s) (hN : NcF s) {Q : State → Prop} {c9 np nk k z : Int} (hnp : 1 ≤ np ∧ np ≤ 10) {cells slots : Nat} (hc : cells + 1 ≤ 400) (hs : slots + 6 * 1 ≤ 3500) {M : Mem} (kont : (∀ (ls : Array Slot) (H : Heap) (locs : List Loc), lv_has ls 7 [(6, .int (iI nk)), (5, .int (iI np)), (4, .int (iI c9)), (3, .int (iI k)), (2, .int (iI z)), (1, .ref (E 0)), (0, .ref b)] → CI (fBs5 c9 np M) → SI (fBs5 c9 np M) → TI (fBs5 c9 np M) → HN (fBs5 c9 np M) → va_P D vwCl (VC E cI cC (fBs5 c9 np M)) H → va_D (lA s) (VC E cI cC (fBs5 c9 np M)) → va_S (lA s) s.heap H locs → W p l e rmB s m args below meth c H locs (cells + 1) (slots + 6 * 1) Q (F0 m 267 ls []))) {ls : Array Slot} {H : Heap} {locs : List Loc} (hl : lv_has ls 7 [(6, .int (iI nk)), (5, .int (iI np)), (4, .int (iI c9)), (3, .int (iI k)), (2, .int (iI z)), (1, .ref (E 0)), (0, .ref b)]) (hkC : CI M) (hkQ : SI M) (hkT : TI M) (hkH : HN M) (hP : va_P D vwCl (VC E cI cC M) H) (hD : va_D (lA s) (VC E cI cC M)) (hS : va_S (lA s) s.heap H locs) : W p l e rmB s m args below meth c H locs cells slots Q (F0 m 236 ls []) := by
  have q1 := zand_15 c9
  have q2 := zand_15 (zshr c9 6)
  have q3 := zand_15 (zshr c9 14)
  have q4 := zand_15 (zshr c9 15)
  have q5 := zand_3 (zshr c9 4)
  have q6 := zand_3 (zshr c9 10)
  have q7 := zand_3 (zshr c9 12)
  have q8 := zand_7 (zshr c9 12)
  have q9 := zand_1 (zshr c9 18)
  have q10 := zand_3 (zshr c9 19)
  have q11 := zand_1 (zshr c9 15)
  have q12 := zand_7 (zshr c9 16)
  have q13 := zand_7 (zshr c9 19)
  have q14 := zand_3 (zshr c9 22)
  have q15 := zand_3 (zshr c9 24)
  refine lv_iload hx hb dL_build_236 (lv_at hl 2 rfl) ?_
  refine z_bipush hx hb dL_build_238 (by decide +kernel) ?_
  refine z_ishr hx hb dL_build_240 ?_
  refine z_bipush hx hb dL_build_241 (by decide +kernel) ?_
  refine z_iand hx hb dL_build_243 ?_
  refine z_iconst hx hb dL_build_244 ?_
  refine z_icmp_ne hx hb dL_build_245 (tgt := 267) rfl ⟨by omega, by omega⟩ (by decide) (fun h => ?_) (fun h => ?_)
  · have e9 : fBs5 c9 np M = M := by
      unfold fBs5
      rw [if_neg (by omega)]
    rw [e9] at kont
    exact W.widen (by omega) (by omega) (kont ls H locs hl hkC hkQ hkT hkH hP hD hS)
  · have e9 : fBs5 c9 np M = (cM M 3 ((zand (zshr c9 15) 15) % np) 0 0) := by
      unfold fBs5
      rw [if_pos (by omega)]
    rw [e9] at kont
    refine lv_aload_n hx hb dL_build_248 rfl (lv_at hl 5 rfl) ?_
    refine z_iconst hx hb dL_build_249 ?_
    refine lv_iload hx hb dL_build_250 (lv_at hl 2 rfl) ?_
    refine z_bipush hx hb dL_build_252 (by decide +kernel) ?_
    refine z_ishr hx hb dL_build_254 ?_
    refine z_bipush hx hb dL_build_255 (by decide +kernel) ?_
    refine z_iand hx hb dL_build_257 ?_
    refine lv_iload hx hb dL_build_258 (lv_at hl 1 rfl) ?_
    refine z_irem hx hb dL_build_260 (by omega) (by omega) (by omega) (by omega) ?_
    refine z_iconst hx hb dL_build_261 ?_
    refine z_iconst hx hb dL_build_262 ?_
    obtain ⟨k3C, k3Q, k3T, k3H⟩ := cM_KI hkC hkQ hkT hkH 3 ((zand (zshr c9 15) 15) % np) 0 0
    refine l1_SW (rest := []) (As := [.ref (E 0), .int (iI 4), .int (iI ((zand (zshr c9 15) 15) % np)), .int (iI 0), .int (iI 0)]) (M := M) S0 (kA_4 l hst D E cI cC T M ((zand (zshr c9 15) 15) % np) 0 0 (em_I _ hnp) hkC hkQ hkH) (vx_cwSW 5 hts gL_build_L_act rfl rfl rfl (by decide +kernel) ⟨(Nat.le_of_ble_eq_true rfl), (Nat.le_of_ble_eq_true rfl)⟩) (ZL_bl E cI cC T) (lb_ZL (M := M) hZ hN hD (fun _ h => h) hS) hK hP hD hS rfl hl.1 rfl (Nat.le_of_ble_eq_true rfl) dL_build_263 ⟨by show _ + 1 ≤ 400; omega, by show _ + 6 * 1 ≤ 3500; omega⟩ (fun H locs hP hD hS => ?_)
    refine lv_pop hx hb dL_build_266 rfl ?_
    exact kont ls H locs hl k3C k3Q k3T k3H hP hD hS
set_option maxRecDepth 100000 in
set_option maxHeartbeats 4000000 in
/-- a step of a turn: pc 267 to 307 -/
theorem lb_s6 (hx : p.tables.exec = Jvm.exec) (hb : c.code = cL_build) (S0 : CallFix p m c cL_build 7 s args wsL_build RL) (hts : ∀ w ∈ wsL_build, w.before args s = true) (hst : l.stackTraces = false) (hK : va_K D vwCl (TY cI cC) s) (hZ : ZA T (lA s) s) (hN : NcF s) {Q : State → Prop} {c9 np nk k z : Int} (hnp : 1 ≤ np ∧ np ≤ 10) {cells slots : Nat} (hc : cells + 1 ≤ 400) (hs : slots + 6 * 1 ≤ 3500) {M : Mem} (kont : (∀ (ls : Array Slot) (H : Heap) (locs : List Loc), lv_has ls 7 [(6, .int (iI nk)), (5, .int (iI np)), (4, .int (iI c9)), (3, .int (iI k)), (2, .int (iI z)), (1, .ref (E 0)), (0, .ref b)] → CI (fBs6 c9 np M) → SI (fBs6 c9 np M) → TI (fBs6 c9 np M) → HN (fBs6 c9 np M) → va_P D vwCl (VC E cI cC (fBs6 c9 np M)) H → va_D (lA s) (VC E cI cC (fBs6 c9 np M)) → va_S (lA s) s.heap H locs → W p l e rmB s m args below meth c H locs (cells + 1) (slots + 6 * 1) Q (F0 m 307 ls []))) {ls : Array Slot} {H : Heap} {locs : List Loc} (hl : lv_has ls 7 [(6, .int (iI nk)), (5, .int (iI np)), (4, .int (iI c9)), (3, .int (iI k)), (2, .int (iI z)), (1, .ref (E 0)), (0, .ref b)]) (hkC : CI M) (hkQ : SI M) (hkT : TI M) (hkH : HN M) (hP : va_P D vwCl (VC E cI cC M) H) (hD : va_D (lA s) (VC E cI cC M)) (hS : va_S (lA s) s.heap H locs) : W p l e rmB s m args below meth c H locs cells slots Q (F0 m 267 ls []) := by
  have q1 := zand_15 c9
  have q2 := zand_15 (zshr c9 6)
  have q3 := zand_15 (zshr c9 14)
  have q4 := zand_15 (zshr c9 15)
  have q5 := zand_3 (zshr c9 4)
  have q6 := zand_3 (zshr c9 10)
  have q7 := zand_3 (zshr c9 12)
  have q8 := zand_7 (zshr c9 12)
  have q9 := zand_1 (zshr c9 18)
  have q10 := zand_3 (zshr c9 19)
  have q11 := zand_1 (zshr c9 15)
  have q12 := zand_7 (zshr c9 16)
  have q13 := zand_7 (zshr c9 19)
  have q14 := zand_3 (zshr c9 22)
  have q15 := zand_3 (zshr c9 24)
  refine lv_iload hx hb dL_build_267 (lv_at hl 2 rfl) ?_
  refine z_bipush hx hb dL_build_269 (by decide +kernel) ?_
  refine z_ishr hx hb dL_build_271 ?_
  refine z_bipush hx hb dL_build_272 (by decide +kernel) ?_
  refine z_iand hx hb dL_build_274 ?_
  refine z_iconst hx hb dL_build_275 ?_
  refine z_icmp_ne hx hb dL_build_276 (tgt := 307) rfl ⟨by omega, by omega⟩ (by decide) (fun h => ?_) (fun h => ?_)
  · have e9 : fBs6 c9 np M = M := by
      unfold fBs6
      rw [if_neg (by omega)]
    rw [e9] at kont
    exact W.widen (by omega) (by omega) (kont ls H locs hl hkC hkQ hkT hkH hP hD hS)
  · have e9 : fBs6 c9 np M = (cM M 8 ((zand (zshr c9 15) 15) % np) (1 + (zand (zshr c9 19) 3)) 0) := by
      unfold fBs6
      rw [if_pos (by omega)]
    rw [e9] at kont
    refine lv_aload_n hx hb dL_build_279 rfl (lv_at hl 5 rfl) ?_
    refine z_bipush hx hb dL_build_280 (by decide +kernel) ?_
    refine lv_iload hx hb dL_build_282 (lv_at hl 2 rfl) ?_
    refine z_bipush hx hb dL_build_284 (by decide +kernel) ?_
    refine z_ishr hx hb dL_build_286 ?_
    refine z_bipush hx hb dL_build_287 (by decide +kernel) ?_
    refine z_iand hx hb dL_build_289 ?_
    refine lv_iload hx hb dL_build_290 (lv_at hl 1 rfl) ?_
    refine z_irem hx hb dL_build_292 (by omega) (by omega) (by omega) (by omega) ?_
    refine z_iconst hx hb dL_build_293 ?_
    refine lv_iload hx hb dL_build_294 (lv_at hl 2 rfl) ?_
    refine z_bipush hx hb dL_build_296 (by decide +kernel) ?_
    refine z_ishr hx hb dL_build_298 ?_
    refine z_iconst hx hb dL_build_299 ?_
    refine z_iand hx hb dL_build_300 ?_
    refine z_iadd hx hb dL_build_301 ?_
    refine z_iconst hx hb dL_build_302 ?_
    obtain ⟨k4C, k4Q, k4T, k4H⟩ := cM_KI hkC hkQ hkT hkH 8 ((zand (zshr c9 15) 15) % np) (1 + (zand (zshr c9 19) 3)) 0
    refine l1_SW (rest := []) (As := [.ref (E 0), .int (iI 6), .int (iI ((zand (zshr c9 15) 15) % np)), .int (iI (1 + (zand (zshr c9 19) 3))), .int (iI 0)]) (M := M) S0 (kA_6 l hst D E cI cC T M ((zand (zshr c9 15) 15) % np) (1 + (zand (zshr c9 19) 3)) 0 (em_I _ hnp) ⟨by omega, by omega⟩ hkC hkQ hkH) (vx_cwSW 5 hts gL_build_L_act rfl rfl rfl (by decide +kernel) ⟨(Nat.le_of_ble_eq_true rfl), (Nat.le_of_ble_eq_true rfl)⟩) (ZL_bl E cI cC T) (lb_ZL (M := M) hZ hN hD (fun _ h => h) hS) hK hP hD hS rfl hl.1 rfl (Nat.le_of_ble_eq_true rfl) dL_build_303 ⟨by show _ + 1 ≤ 400; omega, by show _ + 6 * 1 ≤ 3500; omega⟩ (fun H locs hP hD hS => ?_)
    refine lv_pop hx hb dL_build_306 rfl ?_
    exact kont ls H locs hl k4C k4Q k4T k4H hP hD hS
set_option maxRecDepth 100000 in
set_option maxHeartbeats 4000000 in
/-- a step of a turn: pc 307 to 339 -/
theorem lb_s7 (hx : p.tables.exec = Jvm.exec) (hb : c.code = cL_build) (S0 : CallFix p m c cL_build 7 s args wsL_build RL) (hts : ∀ w ∈ wsL_build, w.before args s = true) (hst : l.stackTraces = false) (hK : va_K D vwCl (TY cI cC) s) (hZ : ZA T (lA s) s) (hN : NcF s) {Q : State → Prop} {c9 np nk k z : Int} (hnp : 1 ≤ np ∧ np ≤ 10) {cells slots : Nat} (hc : cells + 1 ≤ 400) (hs : slots + 6 * 1 ≤ 3500) {M : Mem} (kont : (∀ (ls : Array Slot) (H : Heap) (locs : List Loc), lv_has ls 7 [(6, .int (iI nk)), (5, .int (iI np)), (4, .int (iI c9)), (3, .int (iI k)), (2, .int (iI z)), (1, .ref (E 0)), (0, .ref b)] → CI (fBs7 c9 np M) → SI (fBs7 c9 np M) → TI (fBs7 c9 np M) → HN (fBs7 c9 np M) → va_P D vwCl (VC E cI cC (fBs7 c9 np M)) H → va_D (lA s) (VC E cI cC (fBs7 c9 np M)) → va_S (lA s) s.heap H locs → W p l e rmB s m args below meth c H locs (cells + 1) (slots + 6 * 1) Q (F0 m 339 ls []))) {ls : Array Slot} {H : Heap} {locs : List Loc} (hl : lv_has ls 7 [(6, .int (iI nk)), (5, .int (iI np)), (4, .int (iI c9)), (3, .int (iI k)), (2, .int (iI z)), (1, .ref (E 0)), (0, .ref b)]) (hkC : CI M) (hkQ : SI M) (hkT : TI M) (hkH : HN M) (hP : va_P D vwCl (VC E cI cC M) H) (hD : va_D (lA s) (VC E cI cC M)) (hS : va_S (lA s) s.heap H locs) : W p l e rmB s m args below meth c H locs cells slots Q (F0 m 307 ls []) := by
  have q1 := zand_15 c9
  have q2 := zand_15 (zshr c9 6)
  have q3 := zand_15 (zshr c9 14)
  have q4 := zand_15 (zshr c9 15)
  have q5 := zand_3 (zshr c9 4)
  have q6 := zand_3 (zshr c9 10)
  have q7 := zand_3 (zshr c9 12)
  have q8 := zand_7 (zshr c9 12)
  have q9 := zand_1 (zshr c9 18)
  have q10 := zand_3 (zshr c9 19)
  have q11 := zand_1 (zshr c9 15)
  have q12 := zand_7 (zshr c9 16)
  have q13 := zand_7 (zshr c9 19)
  have q14 := zand_3 (zshr c9 22)
  have q15 := zand_3 (zshr c9 24)
  refine lv_iload hx hb dL_build_307 (lv_at hl 2 rfl) ?_
  refine z_bipush hx hb dL_build_309 (by decide +kernel) ?_
  refine z_ishr hx hb dL_build_311 ?_
  refine z_bipush hx hb dL_build_312 (by decide +kernel) ?_
  refine z_iand hx hb dL_build_314 ?_
  refine z_iconst hx hb dL_build_315 ?_
  refine z_icmp_ne hx hb dL_build_316 (tgt := 339) rfl ⟨by omega, by omega⟩ (by decide) (fun h => ?_) (fun h => ?_)
  · have e9 : fBs7 c9 np M = M := by
      unfold fBs7
      rw [if_neg (by omega)]
    rw [e9] at kont
    exact W.widen (by omega) (by omega) (kont ls H locs hl hkC hkQ hkT hkH hP hD hS)
  · have e9 : fBs7 c9 np M = (cM M 4 ((zand (zshr c9 15) 15) % np) 0 0) := by
      unfold fBs7
      rw [if_pos (by omega)]
    rw [e9] at kont
    refine lv_aload_n hx hb dL_build_319 rfl (lv_at hl 5 rfl) ?_
    refine z_bipush hx hb dL_build_320 (by decide +kernel) ?_
    refine lv_iload hx hb dL_build_322 (lv_at hl 2 rfl) ?_
    refine z_bipush hx hb dL_build_324 (by decide +kernel) ?_
    refine z_ishr hx hb dL_build_326 ?_
    refine z_bipush hx hb dL_build_327 (by decide +kernel) ?_
    refine z_iand hx hb dL_build_329 ?_
    refine lv_iload hx hb dL_build_330 (lv_at hl 1 rfl) ?_
    refine z_irem hx hb dL_build_332 (by omega) (by omega) (by omega) (by omega) ?_
    refine z_iconst hx hb dL_build_333 ?_
    refine z_iconst hx hb dL_build_334 ?_
    obtain ⟨k5C, k5Q, k5T, k5H⟩ := cM_KI hkC hkQ hkT hkH 4 ((zand (zshr c9 15) 15) % np) 0 0
    refine l1_SW (rest := []) (As := [.ref (E 0), .int (iI 7), .int (iI ((zand (zshr c9 15) 15) % np)), .int (iI 0), .int (iI 0)]) (M := M) S0 (kA_7 l hst D E cI cC T M ((zand (zshr c9 15) 15) % np) 0 0 (em_I _ hnp) hkC hkQ hkH) (vx_cwSW 5 hts gL_build_L_act rfl rfl rfl (by decide +kernel) ⟨(Nat.le_of_ble_eq_true rfl), (Nat.le_of_ble_eq_true rfl)⟩) (ZL_bl E cI cC T) (lb_ZL (M := M) hZ hN hD (fun _ h => h) hS) hK hP hD hS rfl hl.1 rfl (Nat.le_of_ble_eq_true rfl) dL_build_335 ⟨by show _ + 1 ≤ 400; omega, by show _ + 6 * 1 ≤ 3500; omega⟩ (fun H locs hP hD hS => ?_)
    refine lv_pop hx hb dL_build_338 rfl ?_
    exact kont ls H locs hl k5C k5Q k5T k5H hP hD hS
set_option maxRecDepth 100000 in
set_option maxHeartbeats 4000000 in
/-- a step of a turn: pc 339 to 368 -/
theorem lb_s8 (hx : p.tables.exec = Jvm.exec) (hb : c.code = cL_build) (S0 : CallFix p m c cL_build 7 s args wsL_build RL) (hts : ∀ w ∈ wsL_build, w.before args s = true) (hst : l.stackTraces = false) (hK : va_K D vwCl (TY cI cC) s) (hZ : ZA T (lA s) s) (hN : NcF s) {Q : State → Prop} {c9 np nk k z : Int} (hnp : 1 ≤ np ∧ np ≤ 10) {cells slots : Nat} (hc : cells + 1 ≤ 400) (hs : slots + 6 * 1 ≤ 3500) {M : Mem} (kont : (∀ (ls : Array Slot) (H : Heap) (locs : List Loc), lv_has ls 7 [(6, .int (iI nk)), (5, .int (iI np)), (4, .int (iI c9)), (3, .int (iI k)), (2, .int (iI z)), (1, .ref (E 0)), (0, .ref b)] → CI (fBs8 c9 np M) → SI (fBs8 c9 np M) → TI (fBs8 c9 np M) → HN (fBs8 c9 np M) → va_P D vwCl (VC E cI cC (fBs8 c9 np M)) H → va_D (lA s) (VC E cI cC (fBs8 c9 np M)) → va_S (lA s) s.heap H locs → W p l e rmB s m args below meth c H locs (cells + 1) (slots + 6 * 1) Q (F0 m 368 ls []))) {ls : Array Slot} {H : Heap} {locs : List Loc} (hl : lv_has ls 7 [(6, .int (iI nk)), (5, .int (iI np)), (4, .int (iI c9)), (3, .int (iI k)), (2, .int (iI z)), (1, .ref (E 0)), (0, .ref b)]) (hkC : CI M) (hkQ : SI M) (hkT : TI M) (hkH : HN M) (hP : va_P D vwCl (VC E cI cC M) H) (hD : va_D (lA s) (VC E cI cC M)) (hS : va_S (lA s) s.heap H locs) : W p l e rmB s m args below meth c H locs cells slots Q (F0 m 339 ls []) := by
  have q1 := zand_15 c9
  have q2 := zand_15 (zshr c9 6)
  have q3 := zand_15 (zshr c9 14)
  have q4 := zand_15 (zshr c9 15)
  have q5 := zand_3 (zshr c9 4)
  have q6 := zand_3 (zshr c9 10)
  have q7 := zand_3 (zshr c9 12)
  have q8 := zand_7 (zshr c9 12)
  have q9 := zand_1 (zshr c9 18)
  have q10 := zand_3 (zshr c9 19)
  have q11 := zand_1 (zshr c9 15)
  have q12 := zand_7 (zshr c9 16)
  have q13 := zand_7 (zshr c9 19)
  have q14 := zand_3 (zshr c9 22)
  have q15 := zand_3 (zshr c9 24)
  refine lv_iload hx hb dL_build_339 (lv_at hl 2 rfl) ?_
  refine z_bipush hx hb dL_build_341 (by decide +kernel) ?_
  refine z_ishr hx hb dL_build_343 ?_
  refine z_bipush hx hb dL_build_344 (by decide +kernel) ?_
  refine z_iand hx hb dL_build_346 ?_
  refine z_bipush hx hb dL_build_347 (by decide +kernel) ?_
  refine z_icmp_ne hx hb dL_build_349 (tgt := 368) rfl ⟨by omega, by omega⟩ (by decide) (fun h => ?_) (fun h => ?_)
  · have e9 : fBs8 c9 np M = M := by
      unfold fBs8
      rw [if_neg (by omega)]
    rw [e9] at kont
    exact W.widen (by omega) (by omega) (kont ls H locs hl hkC hkQ hkT hkH hP hD hS)
  · have e9 : fBs8 c9 np M = (cM M 5 (zand (zshr c9 15) 1) 0 0) := by
      unfold fBs8
      rw [if_pos (by omega)]
    rw [e9] at kont
    refine lv_aload_n hx hb dL_build_352 rfl (lv_at hl 5 rfl) ?_
    refine z_bipush hx hb dL_build_353 (by decide +kernel) ?_
    refine lv_iload hx hb dL_build_355 (lv_at hl 2 rfl) ?_
    refine z_bipush hx hb dL_build_357 (by decide +kernel) ?_
    refine z_ishr hx hb dL_build_359 ?_
    refine z_iconst hx hb dL_build_360 ?_
    refine z_iand hx hb dL_build_361 ?_
    refine z_iconst hx hb dL_build_362 ?_
    refine z_iconst hx hb dL_build_363 ?_
    obtain ⟨k6C, k6Q, k6T, k6H⟩ := cM_KI hkC hkQ hkT hkH 5 (zand (zshr c9 15) 1) 0 0
    refine l1_SW (rest := []) (As := [.ref (E 0), .int (iI 8), .int (iI (zand (zshr c9 15) 1)), .int (iI 0), .int (iI 0)]) (M := M) S0 (kA_8 l hst D E cI cC T M (zand (zshr c9 15) 1) 0 0 ⟨by omega, by omega⟩ hkC hkQ hkH) (vx_cwSW 5 hts gL_build_L_act rfl rfl rfl (by decide +kernel) ⟨(Nat.le_of_ble_eq_true rfl), (Nat.le_of_ble_eq_true rfl)⟩) (ZL_bl E cI cC T) (lb_ZL (M := M) hZ hN hD (fun _ h => h) hS) hK hP hD hS rfl hl.1 rfl (Nat.le_of_ble_eq_true rfl) dL_build_364 ⟨by show _ + 1 ≤ 400; omega, by show _ + 6 * 1 ≤ 3500; omega⟩ (fun H locs hP hD hS => ?_)
    refine lv_pop hx hb dL_build_367 rfl ?_
    exact kont ls H locs hl k6C k6Q k6T k6H hP hD hS
set_option maxRecDepth 100000 in
set_option maxHeartbeats 4000000 in
/-- a step of a turn: pc 368 to 416 -/
theorem lb_s9 (hx : p.tables.exec = Jvm.exec) (hb : c.code = cL_build) (S0 : CallFix p m c cL_build 7 s args wsL_build RL) (hts : ∀ w ∈ wsL_build, w.before args s = true) (hst : l.stackTraces = false) (hK : va_K D vwCl (TY cI cC) s) (hZ : ZA T (lA s) s) (hN : NcF s) {Q : State → Prop} {c9 np nk k z : Int} (hnp : 1 ≤ np ∧ np ≤ 10) {cells slots : Nat} (hc : cells + 1 ≤ 400) (hs : slots + 6 * 1 ≤ 3500) {M : Mem} (kont : (∀ (ls : Array Slot) (H : Heap) (locs : List Loc), lv_has ls 7 [(6, .int (iI nk)), (5, .int (iI np)), (4, .int (iI c9)), (3, .int (iI k)), (2, .int (iI z)), (1, .ref (E 0)), (0, .ref b)] → CI (fBs9 c9 np M) → SI (fBs9 c9 np M) → TI (fBs9 c9 np M) → HN (fBs9 c9 np M) → va_P D vwCl (VC E cI cC (fBs9 c9 np M)) H → va_D (lA s) (VC E cI cC (fBs9 c9 np M)) → va_S (lA s) s.heap H locs → W p l e rmB s m args below meth c H locs (cells + 1) (slots + 6 * 1) Q (F0 m 416 ls []))) {ls : Array Slot} {H : Heap} {locs : List Loc} (hl : lv_has ls 7 [(6, .int (iI nk)), (5, .int (iI np)), (4, .int (iI c9)), (3, .int (iI k)), (2, .int (iI z)), (1, .ref (E 0)), (0, .ref b)]) (hkC : CI M) (hkQ : SI M) (hkT : TI M) (hkH : HN M) (hP : va_P D vwCl (VC E cI cC M) H) (hD : va_D (lA s) (VC E cI cC M)) (hS : va_S (lA s) s.heap H locs) : W p l e rmB s m args below meth c H locs cells slots Q (F0 m 368 ls []) := by
  have q1 := zand_15 c9
  have q2 := zand_15 (zshr c9 6)
  have q3 := zand_15 (zshr c9 14)
  have q4 := zand_15 (zshr c9 15)
  have q5 := zand_3 (zshr c9 4)
  have q6 := zand_3 (zshr c9 10)
  have q7 := zand_3 (zshr c9 12)
  have q8 := zand_7 (zshr c9 12)
  have q9 := zand_1 (zshr c9 18)
  have q10 := zand_3 (zshr c9 19)
  have q11 := zand_1 (zshr c9 15)
  have q12 := zand_7 (zshr c9 16)
  have q13 := zand_7 (zshr c9 19)
  have q14 := zand_3 (zshr c9 22)
  have q15 := zand_3 (zshr c9 24)
  refine lv_iload hx hb dL_build_368 (lv_at hl 2 rfl) ?_
  refine z_bipush hx hb dL_build_370 (by decide +kernel) ?_
  refine z_ishr hx hb dL_build_372 ?_
  refine z_bipush hx hb dL_build_373 (by decide +kernel) ?_
  refine z_iand hx hb dL_build_375 ?_
  refine z_bipush hx hb dL_build_376 (by decide +kernel) ?_
  refine z_icmp_ne hx hb dL_build_378 (tgt := 416) rfl ⟨by omega, by omega⟩ (by decide) (fun h => ?_) (fun h => ?_)
  · have e9 : fBs9 c9 np M = M := by
      unfold fBs9
      rw [if_neg (by omega)]
    rw [e9] at kont
    exact W.widen (by omega) (by omega) (kont ls H locs hl hkC hkQ hkT hkH hP hD hS)
  · have e9 : fBs9 c9 np M = (cM M 7 (zand (zshr c9 15) 1) ((zand (zshr c9 16) 7) % 6) ((zand (zshr c9 19) 7) % 6)) := by
      unfold fBs9
      rw [if_pos (by omega)]
    rw [e9] at kont
    refine lv_aload_n hx hb dL_build_381 rfl (lv_at hl 5 rfl) ?_
    refine z_iconst hx hb dL_build_382 ?_
    refine lv_iload hx hb dL_build_383 (lv_at hl 2 rfl) ?_
    refine z_bipush hx hb dL_build_385 (by decide +kernel) ?_
    refine z_ishr hx hb dL_build_387 ?_
    refine z_iconst hx hb dL_build_388 ?_
    refine z_iand hx hb dL_build_389 ?_
    refine lv_iload hx hb dL_build_390 (lv_at hl 2 rfl) ?_
    refine z_bipush hx hb dL_build_392 (by decide +kernel) ?_
    refine z_ishr hx hb dL_build_394 ?_
    refine z_bipush hx hb dL_build_395 (by decide +kernel) ?_
    refine z_iand hx hb dL_build_397 ?_
    refine z_bipush hx hb dL_build_398 (by decide +kernel) ?_
    refine z_irem hx hb dL_build_400 (by omega) (by omega) (by omega) (by omega) ?_
    refine lv_iload hx hb dL_build_401 (lv_at hl 2 rfl) ?_
    refine z_bipush hx hb dL_build_403 (by decide +kernel) ?_
    refine z_ishr hx hb dL_build_405 ?_
    refine z_bipush hx hb dL_build_406 (by decide +kernel) ?_
    refine z_iand hx hb dL_build_408 ?_
    refine z_bipush hx hb dL_build_409 (by decide +kernel) ?_
    refine z_irem hx hb dL_build_411 (by omega) (by omega) (by omega) (by omega) ?_
    obtain ⟨k7C, k7Q, k7T, k7H⟩ := cM_KI hkC hkQ hkT hkH 7 (zand (zshr c9 15) 1) ((zand (zshr c9 16) 7) % 6) ((zand (zshr c9 19) 7) % 6)
    refine l1_SW (rest := []) (As := [.ref (E 0), .int (iI 5), .int (iI (zand (zshr c9 15) 1)), .int (iI ((zand (zshr c9 16) 7) % 6)), .int (iI ((zand (zshr c9 19) 7) % 6))]) (M := M) S0 (kA_5 l hst D E cI cC T M (zand (zshr c9 15) 1) ((zand (zshr c9 16) 7) % 6) ((zand (zshr c9 19) 7) % 6) ⟨by omega, by omega⟩ ⟨by omega, by omega⟩ ⟨by omega, by omega⟩ hkC hkQ hkH) (vx_cwSW 5 hts gL_build_L_act rfl rfl rfl (by decide +kernel) ⟨(Nat.le_of_ble_eq_true rfl), (Nat.le_of_ble_eq_true rfl)⟩) (ZL_bl E cI cC T) (lb_ZL (M := M) hZ hN hD (fun _ h => h) hS) hK hP hD hS rfl hl.1 rfl (Nat.le_of_ble_eq_true rfl) dL_build_412 ⟨by show _ + 1 ≤ 400; omega, by show _ + 6 * 1 ≤ 3500; omega⟩ (fun H locs hP hD hS => ?_)
    refine lv_pop hx hb dL_build_415 rfl ?_
    exact kont ls H locs hl k7C k7Q k7T k7H hP hD hS
set_option maxRecDepth 100000 in
set_option maxHeartbeats 4000000 in
/-- a step of a turn: pc 416 to 441 -/
theorem lb_s10 (hx : p.tables.exec = Jvm.exec) (hb : c.code = cL_build) (S0 : CallFix p m c cL_build 7 s args wsL_build RL) (hts : ∀ w ∈ wsL_build, w.before args s = true) (hst : l.stackTraces = false) (hK : va_K D vwCl (TY cI cC) s) (hZ : ZA T (lA s) s) (hN : NcF s) {Q : State → Prop} {c9 np nk k z : Int} (hnp : 1 ≤ np ∧ np ≤ 10) {cells slots : Nat} (hc : cells + 1 ≤ 400) (hs : slots + 6 * 1 ≤ 3500) {M : Mem} (kont : (∀ (ls : Array Slot) (H : Heap) (locs : List Loc), lv_has ls 7 [(6, .int (iI nk)), (5, .int (iI np)), (4, .int (iI c9)), (3, .int (iI k)), (2, .int (iI z)), (1, .ref (E 0)), (0, .ref b)] → CI (fBs10 c9 np M) → SI (fBs10 c9 np M) → TI (fBs10 c9 np M) → HN (fBs10 c9 np M) → va_P D vwCl (VC E cI cC (fBs10 c9 np M)) H → va_D (lA s) (VC E cI cC (fBs10 c9 np M)) → va_S (lA s) s.heap H locs → W p l e rmB s m args below meth c H locs (cells + 1) (slots + 6 * 1) Q (F0 m 441 ls []))) {ls : Array Slot} {H : Heap} {locs : List Loc} (hl : lv_has ls 7 [(6, .int (iI nk)), (5, .int (iI np)), (4, .int (iI c9)), (3, .int (iI k)), (2, .int (iI z)), (1, .ref (E 0)), (0, .ref b)]) (hkC : CI M) (hkQ : SI M) (hkT : TI M) (hkH : HN M) (hP : va_P D vwCl (VC E cI cC M) H) (hD : va_D (lA s) (VC E cI cC M)) (hS : va_S (lA s) s.heap H locs) : W p l e rmB s m args below meth c H locs cells slots Q (F0 m 416 ls []) := by
  have q1 := zand_15 c9
  have q2 := zand_15 (zshr c9 6)
  have q3 := zand_15 (zshr c9 14)
  have q4 := zand_15 (zshr c9 15)
  have q5 := zand_3 (zshr c9 4)
  have q6 := zand_3 (zshr c9 10)
  have q7 := zand_3 (zshr c9 12)
  have q8 := zand_7 (zshr c9 12)
  have q9 := zand_1 (zshr c9 18)
  have q10 := zand_3 (zshr c9 19)
  have q11 := zand_1 (zshr c9 15)
  have q12 := zand_7 (zshr c9 16)
  have q13 := zand_7 (zshr c9 19)
  have q14 := zand_3 (zshr c9 22)
  have q15 := zand_3 (zshr c9 24)
  refine lv_iload hx hb dL_build_416 (lv_at hl 2 rfl) ?_
  refine z_bipush hx hb dL_build_418 (by decide +kernel) ?_
  refine z_ishr hx hb dL_build_420 ?_
  refine z_iconst hx hb dL_build_421 ?_
  refine z_iand hx hb dL_build_422 ?_
  refine z_if_ne hx hb dL_build_423 (tgt := 441) rfl ⟨by omega, by omega⟩ (fun h => ?_) (fun h => ?_)
  · have e9 : fBs10 c9 np M = M := by
      unfold fBs10
      rw [if_neg (by omega)]
    rw [e9] at kont
    exact W.widen (by omega) (by omega) (kont ls H locs hl hkC hkQ hkT hkH hP hD hS)
  · have e9 : fBs10 c9 np M = (cM M 0 (zand (zshr c9 24) 3) 0 0) := by
      unfold fBs10
      rw [if_pos (by omega)]
    rw [e9] at kont
    refine lv_aload_n hx hb dL_build_426 rfl (lv_at hl 5 rfl) ?_
    refine z_iconst hx hb dL_build_427 ?_
    refine lv_iload hx hb dL_build_428 (lv_at hl 2 rfl) ?_
    refine z_bipush hx hb dL_build_430 (by decide +kernel) ?_
    refine z_ishr hx hb dL_build_432 ?_
    refine z_iconst hx hb dL_build_433 ?_
    refine z_iand hx hb dL_build_434 ?_
    refine z_iconst hx hb dL_build_435 ?_
    refine z_iconst hx hb dL_build_436 ?_
    obtain ⟨k8C, k8Q, k8T, k8H⟩ := cM_KI hkC hkQ hkT hkH 0 (zand (zshr c9 24) 3) 0 0
    refine l1_SW (rest := []) (As := [.ref (E 0), .int (iI 0), .int (iI (zand (zshr c9 24) 3)), .int (iI 0), .int (iI 0)]) (M := M) S0 (kA_0 l hst D E cI cC T M (zand (zshr c9 24) 3) 0 0 ⟨by omega, by omega⟩ hkC hkQ hkH) (vx_cwSW 5 hts gL_build_L_act rfl rfl rfl (by decide +kernel) ⟨(Nat.le_of_ble_eq_true rfl), (Nat.le_of_ble_eq_true rfl)⟩) (ZL_bl E cI cC T) (lb_ZL (M := M) hZ hN hD (fun _ h => h) hS) hK hP hD hS rfl hl.1 rfl (Nat.le_of_ble_eq_true rfl) dL_build_437 ⟨by show _ + 1 ≤ 400; omega, by show _ + 6 * 1 ≤ 3500; omega⟩ (fun H locs hP hD hS => ?_)
    refine lv_pop hx hb dL_build_440 rfl ?_
    exact kont ls H locs hl k8C k8Q k8T k8H hP hD hS
end
set_option maxRecDepth 100000 in
set_option maxHeartbeats 4000000 in
theorem kL_build (l : Launch) (hst : l.stackTraces = false) (D : va_G) (cI cC : ClassId) (T : Nat → Nat) (b L sz : Nat) (xs : Nat → Int32) (hL : L ≤ 260) : Met l yL_build wsL_build rmB (buP b L sz xs D cI cC T) (buQ D cI cC (fL_build xs L) (fun q => sz ≤ q)) 400 3500 (fun q => sz ≤ q) := by
  refine Met.ofW (cc := cL_build) (maxL := 7) (ret := some (.object "NapkinSyntax")) (by decide +kernel) rfl ?_
  intro p e s m args below meth c s₁ B hml hv
  obtain ⟨rfl, hsz, hK, hX, hZ, hN, hNs⟩ := hv
  subst hsz
  have hl := lv_entry ([.ref b]) (n := 7) (Nat.le_of_ble_eq_true rfl)
  rw [lg_entry_eq]
  generalize (lg_sl ([.ref b]) ++ List.replicate (7 - (lg_sl ([.ref b])).length) Slot.unset).toArray = ls at hl ⊢
  have hl : lv_has ls 7 [(0, .ref b)] := hl
  have hx := B.exec
  have hb := B.bytes
  have hr := B.returns
  have hown := findClass_of_methodNamed B.named
  have hts := atoms_spec (ws := wsL_build) B.pre
  have hlocks := B.notSynchronized
  have hZ : ZA T (lA s) s := hZ
  have hbA : ¬ lA s b := Nat.not_le.mpr hX.2
  have S0 : CallFix p m c cL_build 7 s ([Value.ref b]).toArray wsL_build RL := ⟨hx, hb, hml, hown, hts⟩
  have hS : va_S (lA s) s.heap s.heap [] := va_S.rf
  have hP : va_P D vwCl [] s.heap := fun k q h => by simp at h
  have hD : va_D (lA s) [] := ⟨fun i j p q h => by simp at h, fun k q h => by simp at h⟩
  have hA : ∀ q : Nat, s.heap.size ≤ q → lA s q := fun _ h => h
  refine va_new (ci := 8) (fs := [.null, .null, .null, .null, .null, .null, .null, .null, .int (iI 0), .int (iI 0), .int (iI 0), .int (iI 0)]) (C := RX8) (T := TX8) (N := 12) hx hb hts (by decide +kernel) tyX8 tyX8_ok hown (hts (.classLink RL 18 RX8) (by decide +kernel)) (hts (.instantiable RX8 12) (by decide +kernel)) (hts (.initialized RX8) (by decide +kernel)) hK hP hD hS hA rfl (fun j hj => by rcases (show j = 0 ∨ j = 1 ∨ j = 2 ∨ j = 3 ∨ j = 4 ∨ j = 5 ∨ j = 6 ∨ j = 7 ∨ j = 8 ∨ j = 9 ∨ j = 10 ∨ j = 11 by omega) with rfl | rfl | rfl | rfl | rfl | rfl | rfl | rfl | rfl | rfl | rfl | rfl <;> first | rfl | exact congrArg Value.int iI_0) (by decide) (by decide) dL_build_0 (fun q0 H hP hD hS => ?_)
  have hP : va_P D vwCl [(q0, .inr (8, [.null, .null, .null, .null, .null, .null, .null, .null, .int (iI 0), .int (iI 0), .int (iI 0), .int (iI 0)]))] H := hP
  have hD : va_D (lA s) [(q0, .inr (8, [.null, .null, .null, .null, .null, .null, .null, .null, .int (iI 0), .int (iI 0), .int (iI 0), .int (iI 0)]))] := hD
  refine lv_dup hx hb dL_build_3 rfl ?_
  refine ni_callR (wc := [(q0, .inr (8, [.null, .null, .null, .null, .null, .null, .null, .null, .int (iI 0), .int (iI 0), .int (iI 0), .int (iI 0)]))]) (wr := []) (w := nwY8 cI cC q0) [0] [] rfl rfl rfl rfl (by decide) hP hD hS hA (va_runI (As := []) (rest := [.ref q0]) S0 (kY8_init l D cI cC q0 H.size) (cwI 0 hts gL_build_X8_init rfl rfl rfl (hts (.initialized RX8) (by decide +kernel)) (hts (.methodLink RL 23 yX8_init) (by decide +kernel)) (hts (.instanceMethod yX8_init) (by decide +kernel)) rfl (by decide +kernel) ⟨(Nat.le_of_ble_eq_true rfl), (Nat.le_of_ble_eq_true rfl)⟩) (ni_pre hK hP hD hNs [0] rfl rfl) rfl rfl hl.1 rfl (lv_room (Nat.le_of_ble_eq_true rfl)) dL_build_4 ⟨by decide, by decide⟩) (fun u H locs hP hD hS => ?_)
  obtain ⟨E, hE⟩ : ∃ E, E = ni_e q0 u := ⟨_, rfl⟩
  have hE0 : E 0 = q0 := by rw [hE]; rfl
  have hP : va_P D vwCl (VC E cI cC M0c) H := by rw [hE]; exact hP
  have hD : va_D (lA s) (VC E cI cC M0c) := by rw [hE]; exact hD
  rw [← hE0]
  clear hE hE0
  have hpc : ∃ z : Int, z = sAt xs L 0 := ⟨_, rfl⟩
  obtain ⟨z, hz⟩ := hpc
  have hzr : I32 z := by rw [hz]; exact sAt_r xs L 0
  -- the third loop
  have K3 : ∀ (f : Nat) (k : Int) (M : Mem) (ls : Array Slot) (H : Heap) (locs : List Loc) (cells slots : Nat) (lv : List (Nat × Value)), k + f = 13 → 1 ≤ k → cells + 12 * f ≤ 400 → slots + 72 * f ≤ 3500 → fB3 xs L f k M = fL_build xs L → lv_has ls 7 [(3, .int (iI k)), (2, .int (iI z)), (1, .ref (E 0)), (0, .ref b)] → CI M → SI M → TI M → HN M → va_P D vwCl (VC E cI cC M) H → va_D (lA s) (VC E cI cC M) → va_S (lA s) s.heap H locs → W p l e rmB s m ([Value.ref b]).toArray below meth c H locs cells slots (MQ below (buQ D cI cC (fL_build xs L) (lA s)) ([Value.ref b]).toArray s 400 3500 (lA s)) (F0 m 83 ls []) := by
    intro f
    induction f with
    | zero =>
      intro k M ls H locs cells slots lv hk h0 hc hs hE hl hkC hkQ hkT hkH hP hD hS
      refine lv_iload_n hx hb dL_build_83 rfl (lv_at hl 0 rfl) ?_
      refine z_bipush hx hb dL_build_84 (by decide +kernel) ?_
      refine z_icmp_ge hx hb dL_build_86 (tgt := 447) rfl ⟨by omega, by omega⟩ (by decide) (fun h => ?_) (fun h => absurd (show k ≥ 13 by omega) h)
      refine lv_aload_n hx hb dL_build_447 rfl (lv_at hl 2 rfl) ?_
      have hE : M = fL_build xs L := hE
      rw [hE] at hP hD
      exact W.widen (by omega) (by omega) (W.aret hx hb hr (Or.inl ⟨_, rfl⟩) (Or.inr ⟨_, rfl⟩) (fun t ht hW => ⟨⟨E, E 0, rfl, trivial, rfl, by rw [ht]; exact hP, hD⟩, hS.F ht⟩) hS.2.2 dL_build_448 hlocks)
    | succ f ih =>
      intro k M ls H locs cells slots lv hk h0 hc hs hE hl hkC hkQ hkT hkH hP hD hS
      have hf1 : ((f + 1 : Nat) : Int) = (f : Int) + 1 := by omega
      rw [hf1] at hk
      have h77 := CI_77 hkC
      refine lv_iload_n hx hb dL_build_83 rfl (lv_at hl 0 rfl) ?_
      refine z_bipush hx hb dL_build_84 (by decide +kernel) ?_
      refine z_icmp_ge hx hb dL_build_86 (tgt := 447) rfl ⟨by omega, by omega⟩ (by decide) (fun h => absurd h (by omega)) (fun h => ?_)
      refine lv_aload_n hx hb dL_build_89 rfl (lv_at hl 3 rfl) ?_
      refine lv_iload_n hx hb dL_build_90 rfl (lv_at hl 0 rfl) ?_
      refine l_at (rest := []) hL ⟨by omega, by omega⟩ S0 (va_cwS 2 hts gL_build_L_at rfl rfl rfl (by decide +kernel) ⟨(Nat.le_of_ble_eq_true rfl), (Nat.le_of_ble_eq_true rfl)⟩) hX hbA hK hP hD hS hl.1 (Nat.le_of_ble_eq_true rfl) dL_build_91 ⟨by show cells ≤ 400; omega, by show slots ≤ 3500; omega⟩ (fun H locs hP hD hS => ?_)
      obtain ⟨c9, hc9⟩ : ∃ c9 : Int, c9 = sAt xs L k := ⟨_, rfl⟩
      have hcr : I32 c9 := by rw [hc9]; exact sAt_r xs L k
      rw [← hc9]
      refine lv_istore (lv' := [(4, .int (iI c9)), (3, .int (iI k)), (2, .int (iI z)), (1, .ref (E 0)), (0, .ref b)]) hx hb dL_build_94 hl (by decide) rfl (fun ls hl => ?_)
      refine z_iconst hx hb dL_build_96 ?_
      refine lv_aload_n hx hb dL_build_97 rfl (lv_at hl 3 rfl) ?_
      refine z_iconst hx hb dL_build_98 ?_
      refine l1_VX (rest := [.int (iI 1)]) (As := [.int (iI 0)]) S0 (kX8_account l hst D E cI cC T M 0 (by decide) hkC hkQ hkT 0 (M 0 77) M rfl) (cwV 1 hts gL_build_X8_account rfl rfl rfl (by decide +kernel) ⟨(Nat.le_of_ble_eq_true rfl), (Nat.le_of_ble_eq_true rfl)⟩) (ZC_bl E cI cC T) (lb_ZC (M := M) hZ hD (fun _ h => h) hS) hK hP hD hS rfl hl.1 rfl (Nat.le_of_ble_eq_true rfl) dL_build_99 ⟨by show cells + 1 ≤ 400; omega, by show slots + 6 * 1 ≤ 3500; omega⟩ (fun _ H locs hP hD hS => ?_) (fun hk => absurd rfl hk)
      refine z_mmax (R := rmB) (a := 1) (b := M 0 77) (rest := []) hx hb (hml.trans hl.1.symm) hown (hts (.methodLink RL 38 Lib.Math.max.name) (by decide +kernel)) (hts (.static Lib.Math.max.name) (by decide +kernel)) (hts (.initialized "java/lang/Math") (by decide +kernel)) (hts (.code Lib.Math.max.name Lib.Math.max.code 2 (some .int)) (by decide +kernel)) (Nat.le_of_ble_eq_true rfl) (Nat.le_of_ble_eq_true rfl) (by show cells + 1 ≤ 400; omega) (by show slots + 6 * 1 ≤ 3500; omega) (by omega) (by omega) dL_build_102 ?_
      have hnp := zmax_r 1 (M 0 77)
      have hnp : 1 ≤ zmax 1 (M 0 77) ∧ zmax 1 (M 0 77) ≤ 10 := by omega
      obtain ⟨np, hnpe⟩ : ∃ np : Int, np = zmax 1 (M 0 77) := ⟨_, rfl⟩
      rw [← hnpe] at hnp ⊢
      refine lv_istore (lv' := [(5, .int (iI np)), (4, .int (iI c9)), (3, .int (iI k)), (2, .int (iI z)), (1, .ref (E 0)), (0, .ref b)]) hx hb dL_build_105 hl (by decide) rfl (fun ls hl => ?_)
      have q1 := zand_15 c9
      have q2 := zand_15 (zshr c9 6)
      have q3 := zand_15 (zshr c9 14)
      have q4 := zand_15 (zshr c9 15)
      have q5 := zand_3 (zshr c9 4)
      have q6 := zand_3 (zshr c9 10)
      have q7 := zand_3 (zshr c9 12)
      have q8 := zand_7 (zshr c9 12)
      have q9 := zand_1 (zshr c9 18)
      have q10 := zand_3 (zshr c9 19)
      have q11 := zand_1 (zshr c9 15)
      have q12 := zand_7 (zshr c9 16)
      have q13 := zand_7 (zshr c9 19)
      have q14 := zand_3 (zshr c9 22)
      have q15 := zand_3 (zshr c9 24)
      refine lv_iload hx hb dL_build_107 (lv_at hl 1 rfl) ?_
      refine z_bipush hx hb dL_build_109 (by decide +kernel) ?_
      refine z_iand hx hb dL_build_111 ?_
      refine lv_iload hx hb dL_build_112 (lv_at hl 0 rfl) ?_
      refine z_irem hx hb dL_build_114 (by omega) (by omega) (by omega) (by omega) ?_
      refine lv_istore (lv' := [(6, .int (iI ((zand c9 15) % np))), (5, .int (iI np)), (4, .int (iI c9)), (3, .int (iI k)), (2, .int (iI z)), (1, .ref (E 0)), (0, .ref b)]) hx hb dL_build_115 hl (by decide) rfl (fun ls hl => ?_)
      refine lv_aload_n hx hb dL_build_117 rfl (lv_at hl 5 rfl) ?_
      refine z_iconst hx hb dL_build_118 ?_
      refine lv_iload hx hb dL_build_119 (lv_at hl 0 rfl) ?_
      refine z_iconst hx hb dL_build_121 ?_
      refine lv_iload hx hb dL_build_122 (lv_at hl 2 rfl) ?_
      refine z_iconst hx hb dL_build_124 ?_
      refine z_ishr hx hb dL_build_125 ?_
      refine z_iconst hx hb dL_build_126 ?_
      refine z_iand hx hb dL_build_127 ?_
      refine z_iadd hx hb dL_build_128 ?_
      refine z_iconst hx hb dL_build_129 ?_
      obtain ⟨k9C, k9Q, k9T, k9H⟩ := cM_KI hkC hkQ hkT hkH 1 ((zand c9 15) % np) (1 + (zand (zshr c9 4) 3)) 0
      refine l1_SW (rest := []) (As := [.ref (E 0), .int (iI 1), .int (iI ((zand c9 15) % np)), .int (iI (1 + (zand (zshr c9 4) 3))), .int (iI 0)]) (M := M) S0 (kA_1 l hst D E cI cC T M ((zand c9 15) % np) (1 + (zand (zshr c9 4) 3)) 0 (em_I _ hnp) ⟨by omega, by omega⟩ hkC hkQ hkH) (vx_cwSW 5 hts gL_build_L_act rfl rfl rfl (by decide +kernel) ⟨(Nat.le_of_ble_eq_true rfl), (Nat.le_of_ble_eq_true rfl)⟩) (ZL_bl E cI cC T) (lb_ZL (M := M) hZ hN hD (fun _ h => h) hS) hK hP hD hS rfl hl.1 rfl (Nat.le_of_ble_eq_true rfl) dL_build_130 ⟨by show _ + 1 ≤ 400; omega, by show _ + 6 * 1 ≤ 3500; omega⟩ (fun H locs hP hD hS => ?_)
      refine lv_pop hx hb dL_build_133 rfl ?_
      refine lv_aload_n hx hb dL_build_134 rfl (lv_at hl 5 rfl) ?_
      refine z_iconst hx hb dL_build_135 ?_
      refine lv_iload hx hb dL_build_136 (lv_at hl 2 rfl) ?_
      refine z_bipush hx hb dL_build_138 (by decide +kernel) ?_
      refine z_ishr hx hb dL_build_140 ?_
      refine z_bipush hx hb dL_build_141 (by decide +kernel) ?_
      refine z_iand hx hb dL_build_143 ?_
      refine lv_iload hx hb dL_build_144 (lv_at hl 1 rfl) ?_
      refine z_irem hx hb dL_build_146 (by omega) (by omega) (by omega) (by omega) ?_
      refine lv_iload hx hb dL_build_147 (lv_at hl 2 rfl) ?_
      refine z_bipush hx hb dL_build_149 (by decide +kernel) ?_
      refine z_ishr hx hb dL_build_151 ?_
      refine z_iconst hx hb dL_build_152 ?_
      refine z_iand hx hb dL_build_153 ?_
      refine z_iconst hx hb dL_build_154 ?_
      have K163 : ∀ (f9 : Int), f9 = (if (zand (zshr c9 10) 3) = 3 then 1 else 0) → W p l e rmB s m ([Value.ref b]).toArray below meth c H locs (cells + 1 + 1) (slots + 6 * 1 + 6 * 1) (MQ below (buQ D cI cC (fL_build xs L) (lA s)) ([Value.ref b]).toArray s 400 3500 (lA s)) (F0 m 163 ls (.int (iI f9) :: [.int (iI ((zand (zshr c9 6) 15) % np)), .int (iI 3), .ref (E 0)])) := by
        intro f9 hf9
        have hf9r : 0 ≤ f9 ∧ f9 ≤ 1 := by rw [hf9]; split <;> omega
        refine z_iconst hx hb dL_build_163 ?_
        obtain ⟨k10C, k10Q, k10T, k10H⟩ := cM_KI k9C k9Q k9T k9H 6 ((zand (zshr c9 6) 15) % np) f9 0
        refine l1_SW (rest := []) (As := [.ref (E 0), .int (iI 3), .int (iI ((zand (zshr c9 6) 15) % np)), .int (iI f9), .int (iI 0)]) (M := (cM M 1 ((zand c9 15) % np) (1 + (zand (zshr c9 4) 3)) 0)) S0 (kA_3 l hst D E cI cC T (cM M 1 ((zand c9 15) % np) (1 + (zand (zshr c9 4) 3)) 0) ((zand (zshr c9 6) 15) % np) f9 0 (em_I _ hnp) ⟨by omega, by omega⟩ k9C k9Q k9H) (vx_cwSW 5 hts gL_build_L_act rfl rfl rfl (by decide +kernel) ⟨(Nat.le_of_ble_eq_true rfl), (Nat.le_of_ble_eq_true rfl)⟩) (ZL_bl E cI cC T) (lb_ZL (M := (cM M 1 ((zand c9 15) % np) (1 + (zand (zshr c9 4) 3)) 0)) hZ hN hD (fun _ h => h) hS) hK hP hD hS rfl hl.1 rfl (Nat.le_of_ble_eq_true rfl) dL_build_164 ⟨by show _ + 1 ≤ 400; omega, by show _ + 6 * 1 ≤ 3500; omega⟩ (fun H locs hP hD hS => ?_)
        refine lv_pop hx hb dL_build_167 rfl ?_
        rw [show (cM (cM M 1 ((zand c9 15) % np) (1 + (zand (zshr c9 4) 3)) 0) 6 ((zand (zshr c9 6) 15) % np) f9 0) = fBs2 c9 np (fBs1 c9 np M) by unfold fBs2 fBs1; rw [hf9]] at hP hD k10C k10Q k10T k10H
        obtain ⟨nk, hnk⟩ : ∃ nk : Int, nk = ((zand c9 15) % np) := ⟨_, rfl⟩
        have hl : lv_has ls 7 [(6, .int (iI nk)), (5, .int (iI np)), (4, .int (iI c9)), (3, .int (iI k)), (2, .int (iI z)), (1, .ref (E 0)), (0, .ref b)] := by rw [hnk]; exact hl
        refine lb_s3 hx hb S0 hts hst hK hZ hN hnp (by omega) (by omega) (fun ls H locs hl hkC hkQ hkT hkH hP hD hS => ?_) hl k10C k10Q k10T k10H hP hD hS
        refine lb_s4 hx hb S0 hts hst hK hZ hN hnp (by omega) (by omega) (fun ls H locs hl hkC hkQ hkT hkH hP hD hS => ?_) hl hkC hkQ hkT hkH hP hD hS
        refine lb_s5 hx hb S0 hts hst hK hZ hN hnp (by omega) (by omega) (fun ls H locs hl hkC hkQ hkT hkH hP hD hS => ?_) hl hkC hkQ hkT hkH hP hD hS
        refine lb_s6 hx hb S0 hts hst hK hZ hN hnp (by omega) (by omega) (fun ls H locs hl hkC hkQ hkT hkH hP hD hS => ?_) hl hkC hkQ hkT hkH hP hD hS
        refine lb_s7 hx hb S0 hts hst hK hZ hN hnp (by omega) (by omega) (fun ls H locs hl hkC hkQ hkT hkH hP hD hS => ?_) hl hkC hkQ hkT hkH hP hD hS
        refine lb_s8 hx hb S0 hts hst hK hZ hN hnp (by omega) (by omega) (fun ls H locs hl hkC hkQ hkT hkH hP hD hS => ?_) hl hkC hkQ hkT hkH hP hD hS
        refine lb_s9 hx hb S0 hts hst hK hZ hN hnp (by omega) (by omega) (fun ls H locs hl hkC hkQ hkT hkH hP hD hS => ?_) hl hkC hkQ hkT hkH hP hD hS
        refine lb_s10 hx hb S0 hts hst hK hZ hN hnp (by omega) (by omega) (fun ls H locs hl hkC hkQ hkT hkH hP hD hS => ?_) hl hkC hkQ hkT hkH hP hD hS
        refine z_iinc (k := 3) (n := 1) (lv' := [(3, .int (iI (k + 1))), (6, .int (iI nk)), (5, .int (iI np)), (4, .int (iI c9)), (2, .int (iI z)), (1, .ref (E 0)), (0, .ref b)]) hx hb dL_build_441 hl rfl (by decide) rfl (fun ls hl => ?_)
        refine lv_goto (tgt := 83) hx hb dL_build_444 (by decide) ?_
        exact ih (k + 1) _ ls H locs _ _ lv (by omega) (by omega) (by omega) (by omega) (by rw [← hE, hnpe, hc9]; rfl) (lv_sub hl [0, 4, 5, 6] rfl) hkC hkQ hkT hkH hP hD hS
      refine z_icmp_ne hx hb dL_build_155 (tgt := 162) rfl ⟨by omega, by omega⟩ (by decide) (fun h => ?_) (fun h => ?_)
      · refine z_iconst hx hb dL_build_162 ?_
        exact K163 0 (by rw [if_neg h])
      · refine z_iconst hx hb dL_build_158 ?_
        refine lv_goto (tgt := 163) hx hb dL_build_159 (by decide) ?_
        exact K163 1 (by rw [if_pos (by omega)])
  -- the second loop
  have K2 : ∀ (f : Nat) (k : Int) (M : Mem) (ls : Array Slot) (H : Heap) (locs : List Loc) (cells slots : Nat), k + f = 3 → 0 ≤ k → cells + f + 144 ≤ 400 → slots + 6 * f + 864 ≤ 3500 → fB3 xs L 12 1 (fB2 z f k M) = fL_build xs L → lv_has ls 7 [(3, .int (iI k)), (2, .int (iI z)), (1, .ref (E 0)), (0, .ref b)] → CI M → SI M → TI M → HN M → va_P D vwCl (VC E cI cC M) H → va_D (lA s) (VC E cI cC M) → va_S (lA s) s.heap H locs → W p l e rmB s m ([Value.ref b]).toArray below meth c H locs cells slots (MQ below (buQ D cI cC (fL_build xs L) (lA s)) ([Value.ref b]).toArray s 400 3500 (lA s)) (F0 m 50 ls []) := by
    intro f
    induction f with
    | zero =>
      intro k M ls H locs cells slots hk h0 hc hs hE hl hkC hkQ hkT hkH hP hD hS
      refine lv_iload_n hx hb dL_build_50 rfl (lv_at hl 0 rfl) ?_
      refine z_iconst hx hb dL_build_51 ?_
      refine z_icmp_ge hx hb dL_build_52 (tgt := 81) rfl ⟨by omega, by omega⟩ (by decide) (fun h => ?_) (fun h => absurd (show k ≥ 3 by omega) h)
      refine z_iconst hx hb dL_build_81 ?_
      refine lv_istore_n (lv' := [(3, .int (iI 1)), (2, .int (iI z)), (1, .ref (E 0)), (0, .ref b)]) hx hb dL_build_82 rfl hl (by decide) rfl (fun ls hl => ?_)
      exact K3 12 1 M ls H locs cells slots [] (by omega) (by omega) (by omega) (by omega) hE hl hkC hkQ hkT hkH hP hD hS
    | succ f ih =>
      intro k M ls H locs cells slots hk h0 hc hs hE hl hkC hkQ hkT hkH hP hD hS
      have hf1 : ((f + 1 : Nat) : Int) = (f : Int) + 1 := by omega
      rw [hf1] at hk
      have q1 := zand_1 (zshr z (16 + (2 * k)))
      refine lv_iload_n hx hb dL_build_50 rfl (lv_at hl 0 rfl) ?_
      refine z_iconst hx hb dL_build_51 ?_
      refine z_icmp_ge hx hb dL_build_52 (tgt := 81) rfl ⟨by omega, by omega⟩ (by decide) (fun h => absurd h (by omega)) (fun h => ?_)
      refine lv_aload_n hx hb dL_build_55 rfl (lv_at hl 2 rfl) ?_
      refine z_iconst hx hb dL_build_56 ?_
      refine lv_iload_n hx hb dL_build_57 rfl (lv_at hl 0 rfl) ?_
      refine z_iconst hx hb dL_build_58 ?_
      refine lv_iload_n hx hb dL_build_59 rfl (lv_at hl 1 rfl) ?_
      refine z_bipush hx hb dL_build_60 (by decide +kernel) ?_
      refine z_iconst hx hb dL_build_62 ?_
      refine lv_iload_n hx hb dL_build_63 rfl (lv_at hl 0 rfl) ?_
      refine z_imul hx hb dL_build_64 ?_
      refine z_iadd hx hb dL_build_65 ?_
      refine z_ishr hx hb dL_build_66 ?_
      refine z_iconst hx hb dL_build_67 ?_
      refine z_iand hx hb dL_build_68 ?_
      refine z_iadd hx hb dL_build_69 ?_
      refine z_iconst hx hb dL_build_70 ?_
      obtain ⟨k11C, k11Q, k11T, k11H⟩ := cM_KI hkC hkQ hkT hkH 1 k (1 + (zand (zshr z (16 + (2 * k))) 1)) 0
      refine l1_SW (rest := []) (As := [.ref (E 0), .int (iI 1), .int (iI k), .int (iI (1 + (zand (zshr z (16 + (2 * k))) 1))), .int (iI 0)]) (M := M) S0 (kA_1 l hst D E cI cC T M k (1 + (zand (zshr z (16 + (2 * k))) 1)) 0 ⟨by omega, by omega⟩ ⟨by omega, by omega⟩ hkC hkQ hkH) (vx_cwSW 5 hts gL_build_L_act rfl rfl rfl (by decide +kernel) ⟨(Nat.le_of_ble_eq_true rfl), (Nat.le_of_ble_eq_true rfl)⟩) (ZL_bl E cI cC T) (lb_ZL (M := M) hZ hN hD (fun _ h => h) hS) hK hP hD hS rfl hl.1 rfl (Nat.le_of_ble_eq_true rfl) dL_build_71 ⟨by show _ + 1 ≤ 400; omega, by show _ + 6 * 1 ≤ 3500; omega⟩ (fun H locs hP hD hS => ?_)
      refine lv_pop hx hb dL_build_74 rfl ?_
      refine z_iinc (k := 0) (n := 1) (lv' := [(3, .int (iI (k + 1))), (2, .int (iI z)), (1, .ref (E 0)), (0, .ref b)]) hx hb dL_build_75 hl rfl (by decide) rfl (fun ls hl => ?_)
      refine lv_goto (tgt := 50) hx hb dL_build_78 (by decide) ?_
      exact ih (k + 1) _ ls H locs (cells + 1) (slots + 6 * 1) (by omega) (by omega) (by omega) (by omega) hE (lv_sub hl [0, 1, 2, 3] rfl) k11C k11Q k11T k11H hP hD hS
  -- the first loop
  have K1 : ∀ (f : Nat) (k : Int) (M : Mem) (ls : Array Slot) (H : Heap) (locs : List Loc) (cells slots : Nat), k + f = 3 + zand z 3 → 0 ≤ k → cells + f + 147 ≤ 400 → slots + 6 * f + 882 ≤ 3500 → fB3 xs L 12 1 (fB2 z 3 0 (fB1 z f k M)) = fL_build xs L → lv_has ls 7 [(3, .int (iI k)), (2, .int (iI z)), (1, .ref (E 0)), (0, .ref b)] → CI M → SI M → TI M → HN M → va_P D vwCl (VC E cI cC M) H → va_D (lA s) (VC E cI cC M) → va_S (lA s) s.heap H locs → W p l e rmB s m ([Value.ref b]).toArray below meth c H locs cells slots (MQ below (buQ D cI cC (fL_build xs L) (lA s)) ([Value.ref b]).toArray s 400 3500 (lA s)) (F0 m 16 ls []) := by
    have q3 := zand_3 z
    intro f
    induction f with
    | zero =>
      intro k M ls H locs cells slots hk h0 hc hs hE hl hkC hkQ hkT hkH hP hD hS
      refine lv_iload_n hx hb dL_build_16 rfl (lv_at hl 0 rfl) ?_
      refine z_iconst hx hb dL_build_17 ?_
      refine lv_iload_n hx hb dL_build_18 rfl (lv_at hl 1 rfl) ?_
      refine z_iconst hx hb dL_build_19 ?_
      refine z_iand hx hb dL_build_20 ?_
      refine z_iadd hx hb dL_build_21 ?_
      refine z_icmp_ge hx hb dL_build_22 (tgt := 48) rfl ⟨by omega, by omega⟩ ⟨by omega, by omega⟩ (fun h => ?_) (fun h => absurd (show k ≥ 3 + zand z 3 by omega) h)
      refine z_iconst hx hb dL_build_48 ?_
      refine lv_istore_n (lv' := [(3, .int (iI 0)), (2, .int (iI z)), (1, .ref (E 0)), (0, .ref b)]) hx hb dL_build_49 rfl hl (by decide) rfl (fun ls hl => ?_)
      exact K2 3 0 M ls H locs cells slots (by omega) (by omega) (by omega) (by omega) hE hl hkC hkQ hkT hkH hP hD hS
    | succ f ih =>
      intro k M ls H locs cells slots hk h0 hc hs hE hl hkC hkQ hkT hkH hP hD hS
      have hf1 : ((f + 1 : Nat) : Int) = (f : Int) + 1 := by omega
      rw [hf1] at hk
      have q1 := zand_3 (zshr z (2 + (2 * k)))
      refine lv_iload_n hx hb dL_build_16 rfl (lv_at hl 0 rfl) ?_
      refine z_iconst hx hb dL_build_17 ?_
      refine lv_iload_n hx hb dL_build_18 rfl (lv_at hl 1 rfl) ?_
      refine z_iconst hx hb dL_build_19 ?_
      refine z_iand hx hb dL_build_20 ?_
      refine z_iadd hx hb dL_build_21 ?_
      refine z_icmp_ge hx hb dL_build_22 (tgt := 48) rfl ⟨by omega, by omega⟩ ⟨by omega, by omega⟩ (fun h => absurd h (by omega)) (fun h => ?_)
      refine lv_aload_n hx hb dL_build_25 rfl (lv_at hl 2 rfl) ?_
      refine z_iconst hx hb dL_build_26 ?_
      refine lv_iload_n hx hb dL_build_27 rfl (lv_at hl 1 rfl) ?_
      refine z_iconst hx hb dL_build_28 ?_
      refine z_iconst hx hb dL_build_29 ?_
      refine lv_iload_n hx hb dL_build_30 rfl (lv_at hl 0 rfl) ?_
      refine z_imul hx hb dL_build_31 ?_
      refine z_iadd hx hb dL_build_32 ?_
      refine z_ishr hx hb dL_build_33 ?_
      refine z_iconst hx hb dL_build_34 ?_
      refine z_iand hx hb dL_build_35 ?_
      refine z_iconst hx hb dL_build_36 ?_
      refine z_iconst hx hb dL_build_37 ?_
      obtain ⟨k12C, k12Q, k12T, k12H⟩ := cM_KI hkC hkQ hkT hkH 0 (zand (zshr z (2 + (2 * k))) 3) 0 0
      refine l1_SW (rest := []) (As := [.ref (E 0), .int (iI 0), .int (iI (zand (zshr z (2 + (2 * k))) 3)), .int (iI 0), .int (iI 0)]) (M := M) S0 (kA_0 l hst D E cI cC T M (zand (zshr z (2 + (2 * k))) 3) 0 0 ⟨by omega, by omega⟩ hkC hkQ hkH) (vx_cwSW 5 hts gL_build_L_act rfl rfl rfl (by decide +kernel) ⟨(Nat.le_of_ble_eq_true rfl), (Nat.le_of_ble_eq_true rfl)⟩) (ZL_bl E cI cC T) (lb_ZL (M := M) hZ hN hD (fun _ h => h) hS) hK hP hD hS rfl hl.1 rfl (Nat.le_of_ble_eq_true rfl) dL_build_38 ⟨by show _ + 1 ≤ 400; omega, by show _ + 6 * 1 ≤ 3500; omega⟩ (fun H locs hP hD hS => ?_)
      refine lv_pop hx hb dL_build_41 rfl ?_
      refine z_iinc (k := 0) (n := 1) (lv' := [(3, .int (iI (k + 1))), (2, .int (iI z)), (1, .ref (E 0)), (0, .ref b)]) hx hb dL_build_42 hl rfl (by decide) rfl (fun ls hl => ?_)
      refine lv_goto (tgt := 16) hx hb dL_build_45 (by decide) ?_
      exact ih (k + 1) _ ls H locs (cells + 1) (slots + 6 * 1) (by omega) (by omega) (by omega) (by omega) hE (lv_sub hl [0, 1, 2, 3] rfl) k12C k12Q k12T k12H hP hD hS
  have q3 := zand_3 z
  refine lv_astore_n (lv' := [(1, .ref (E 0)), (0, .ref b)]) hx hb dL_build_7 rfl hl (by decide) rfl (fun ls hl => ?_)
  refine lv_aload_n hx hb dL_build_8 rfl (lv_at hl 1 rfl) ?_
  refine z_iconst hx hb dL_build_9 ?_
  refine l_at (rest := []) hL (by decide) S0 (va_cwS 2 hts gL_build_L_at rfl rfl rfl (by decide +kernel) ⟨(Nat.le_of_ble_eq_true rfl), (Nat.le_of_ble_eq_true rfl)⟩) hX hbA hK hP hD hS hl.1 (Nat.le_of_ble_eq_true rfl) dL_build_10 ⟨by decide, by decide⟩ (fun H locs hP hD hS => ?_)
  rw [← hz]
  refine lv_istore_n (lv' := [(2, .int (iI z)), (1, .ref (E 0)), (0, .ref b)]) hx hb dL_build_13 rfl hl (by decide) rfl (fun ls hl => ?_)
  refine z_iconst hx hb dL_build_14 ?_
  refine lv_istore_n (lv' := [(3, .int (iI 0)), (2, .int (iI z)), (1, .ref (E 0)), (0, .ref b)]) hx hb dL_build_15 rfl hl (by decide) rfl (fun ls hl => ?_)
  exact K1 (3 + zand z 3).toNat 0 M0c ls H locs _ _ (by omega) (by omega) (by show 0 + 1 + 18 + _ + 147 ≤ 400; omega) (by show 0 + 12 + 1011 + 6 * _ + 882 ≤ 3500; omega) (by rw [hz]; rfl) hl KI_0.1 KI_0.2.1 KI_0.2.2.1 KI_0.2.2.2 hP hD hS
