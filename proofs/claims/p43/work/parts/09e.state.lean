/-! THE LAW'S METHOD state: a number out of all that the object shows (written by mk09e.py). -/
def fS1 : Nat → Int → Int → Mem → Int × Mem
  | 0, _, v, M => (v, M)
  | f + 1, k, v, M => fS1 f (k + 1) (31 * v + (fX8_account M k).2.1) (fX8_account M k).2.2
def fS2i (M : Mem) (n : Int) : Nat → Int → Int → Int
  | 0, _, v => v
  | f + 1, k, v => fS2i M n f (k + 1) (31 * v + (fX8_napkinOf M n k).2)
def fS2 (M : Mem) : Nat → Int → Int → Int
  | 0, _, v => v
  | f + 1, n, v => fS2 M f (n + 1) (fS2i M n 7 0 v)
def fS3i (t : Int) : Nat → Int → Int → Mem → Int × Mem
  | 0, _, v, M => (v, M)
  | f + 1, k, v, M => fS3i t f (k + 1) (31 * v + (fX8_tableOf M t k).2.1) (fX8_tableOf M t k).2.2
def fS3 : Nat → Int → Int → Mem → Int × Mem
  | 0, _, v, M => (v, M)
  | f + 1, t, v, M => fS3 f (t + 1) (fS3i t 6 0 v M).1 (fS3i t 6 0 v M).2
def fL_state (M : Mem) : Int × Mem := fS3 3 0 (fS2 (fS1 10 0 0 M).2 ((fS1 10 0 0 M).2 0 77).toNat 0 (fS1 10 0 0 M).1) (fS1 10 0 0 M).2
/-- what a reading call leaves: all but the sentence -/
def SameS (M N : Mem) : Prop := ∀ r : Nat, r ≠ 1 → r ≠ 2 → r ≠ 3 → r ≠ 4 → r ≠ 7 → N r = M r
theorem SameS.rf (M : Mem) : SameS M M := fun _ _ _ _ _ _ => rfl
theorem SameS.tr {M N K : Mem} (h : SameS M N) (g : SameS N K) : SameS M K := fun r a b c d e => (g r a b c d e).trans (h r a b c d e)
theorem beq_f {r k : Nat} (h : r ≠ k) : Nat.beq r k = false := by
  cases h9 : Nat.beq r k with
  | false => rfl
  | true => exact absurd (Nat.eq_of_beq_eq_true h9) h
theorem account_S (M : Mem) (k : Int) : SameS M (fX8_account M k).2.2 := fun r h1 h2 h3 h4 h7 => fr_fX8_account k (beq_f h1) (beq_f h2) (beq_f h3) (beq_f h4) (beq_f h7)
theorem tableOf_S (M : Mem) (t k : Int) : SameS M (fX8_tableOf M t k).2.2 := fun r h1 h2 h3 h4 h7 => fr_fX8_tableOf t k (beq_f h1) (beq_f h2) (beq_f h3) (beq_f h4) (beq_f h7)
theorem CI_S {M N : Mem} (h : SameS M N) (hC : CI M) : CI N := CI_of0 (h 0 (by decide) (by decide) (by decide) (by decide) (by decide)) hC
theorem TI_S {M N : Mem} (h : SameS M N) (hT : TI M) : TI N := by
  unfold TI at *
  rw [h 10 (by decide) (by decide) (by decide) (by decide) (by decide), h 11 (by decide) (by decide) (by decide) (by decide) (by decide)]
  exact hT
theorem account_0 (M : Mem) {k : Int} (h : 0 ≤ k ∧ k ≤ 11) : (fX8_account M k).1 = 0 := by
  rcases (show k = 0 ∨ k = 1 ∨ k = 2 ∨ k = 3 ∨ k = 4 ∨ k = 5 ∨ k = 6 ∨ k = 7 ∨ k = 8 ∨ k = 9 ∨ k = 10 ∨ k = 11 by omega) with rfl | rfl | rfl | rfl | rfl | rfl | rfl | rfl | rfl | rfl | rfl | rfl <;> rfl
theorem SI_rightL {M : Mem} : ∀ (k : Nat) (Mx : Mem) (c t : Int), CI Mx → SI Mx → SI (fX8_rightTables_L1 M k Mx c t).2 := by
  intro k
  induction k with
  | zero => intro Mx c t _ h; exact h
  | succ k ih =>
    intro Mx c t hC h
    have h0 : CI (fX8_heard Mx t) := CI_of0 (fr_fX8_heard t rfl rfl rfl rfl rfl) hC
    rw [fX8_rightTables_L1]
    split
    · exact h
    split
    · exact ih _ _ _ h0 (SI_heard hC h t)
    · exact ih _ _ _ h0 (SI_heard hC h t)
theorem SI_account {M : Mem} (hC : CI M) (hQ : SI M) {k : Int} (h : 0 ≤ k ∧ k ≤ 11) : SI (fX8_account M k).2.2 := by
  rcases (show k = 0 ∨ k = 1 ∨ k = 2 ∨ k = 3 ∨ k = 4 ∨ k = 5 ∨ k = 6 ∨ k = 7 ∨ k = 8 ∨ k = 9 ∨ k = 10 ∨ k = 11 by omega) with rfl | rfl | rfl | rfl | rfl | rfl | rfl | rfl | rfl | rfl | rfl | rfl <;> first | exact hQ | exact SI_rightL (M := M) 4 M 0 0 hC hQ
theorem SI_tableOf {M : Mem} (hC : CI M) (hQ : SI M) (t k : Int) : SI (fX8_tableOf M t k).2.2 := by
  unfold fX8_tableOf
  (repeat' split) <;> first | exact hQ | exact SI_heard hC hQ t
theorem napkinOf_0 {M : Mem} {n k : Int} (hn : 0 ≤ n ∧ n < M 0 77) (h : 0 ≤ k ∧ k ≤ 6) : (fX8_napkinOf M n k).1 = 0 := by
  have h1 : fX6_hasNapkin M n = 1 := by
    unfold fX6_hasNapkin
    rw [if_neg (by omega), if_neg (by omega)]
  unfold fX8_napkinOf
  rw [h1]
  (repeat' split) <;> first | rfl | omega
theorem checkTable_0 {M : Mem} {t : Int} (ht : 0 ≤ t ∧ t < 3) : fX8_checkTable M t = 0 := by
  unfold fX8_checkTable fX8_isTable
  rw [if_neg (by rw [if_neg (by omega), if_neg (by omega)]; decide)]
theorem tableOf_0 {M : Mem} {t k : Int} (ht : 0 ≤ t ∧ t < 3) (h : 0 ≤ k ∧ k ≤ 5) : (fX8_tableOf M t k).1 = 0 := by
  unfold fX8_tableOf
  rw [if_pos (checkTable_0 ht)]
  (repeat' split) <;> first | rfl | omega
set_option maxRecDepth 100000 in
set_option maxHeartbeats 4000000 in
theorem kL_state (l : Launch) (hst : l.stackTraces = false) (D : va_G) (E : Nat → Nat) (cI cC : ClassId) (T : Nat → Nat) (M : Mem) (hC : CI M) (hQ : SI M) (hT : TI M) : Cn l yL_state wsL_state 20 400 150 [.ref (E 0)] D (TY cI cC) (VC E cI cC) (ZC E cI cC T) M (some (.int (iI (fL_state M).1))) (fL_state M).2 := by
  refine Cn.of (cc := cL_state) (maxL := 4) (ret := (some .int)) (by decide +kernel) rfl (Nat.le_of_ble_eq_true rfl) ?_
  intro p e s m args below meth c ls hx hb hml hr hown hts hlocks hP hK hD hZ hS hl
  have hl : lv_has ls 4 [(0, .ref (E 0))] := hl
  have S0 : CallFix p m c cL_state 4 s args wsL_state RL := ⟨hx, hb, hml, hown, hts⟩
  -- the third loop, its inner one first
  have K3 : ∀ (f : Nat) (t v : Int) (Mx : Mem) (ls : Array Slot) (H : Heap) (locs : List Loc) (cells slots : Nat), t + f = 3 → 0 ≤ t → cells + 12 * f ≤ 150 → slots + 6 * (12 * f) ≤ 900 → fS3 f t v Mx = fL_state M → lv_has ls 4 [(2, .int (iI t)), (1, .int (iI v)), (0, .ref (E 0))] → CI Mx → SI Mx → TI Mx → va_P D vwCl (VC E cI cC Mx) H → va_D (wA (VC E cI cC M)) (VC E cI cC Mx) → va_S (wA (VC E cI cC M)) s.heap H locs → W p l e (zRmx 20 400 150) s m args below meth c H locs cells slots (MQ below (cnQ D (VC E cI cC) M (some (.int (iI (fL_state M).1))) (fL_state M).2) args s 150 (6 * 150) (wA (VC E cI cC M))) (F0 m 72 ls []) := by
    intro f
    induction f with
    | zero =>
      intro t v Mx ls H locs cells slots ht h0 hc hs hE hl hCx hQx hTx hP hD hS
      refine lv_iload_n hx hb dL_state_72 rfl (lv_at hl 0 rfl) ?_
      refine z_iconst hx hb dL_state_73 ?_
      refine z_icmp_ge hx hb dL_state_74 (tgt := 109) rfl ⟨by omega, by omega⟩ (by decide) (fun h => ?_) (fun h => absurd (show t ≥ 3 by omega) h)
      refine lv_iload_n hx hb dL_state_109 rfl (lv_at hl 1 rfl) ?_
      rw [← hE]
      exact cn_i hx hb hr hlocks rfl rfl hS hP (by omega) (by omega) dL_state_110
    | succ f ih =>
      intro t v Mx ls H locs cells slots ht h0 hc hs hE hl hCx hQx hTx hP hD hS
      have hf1 : ((f + 1 : Nat) : Int) = (f : Int) + 1 := by omega
      rw [hf1] at ht
      refine lv_iload_n hx hb dL_state_72 rfl (lv_at hl 0 rfl) ?_
      refine z_iconst hx hb dL_state_73 ?_
      refine z_icmp_ge hx hb dL_state_74 (tgt := 109) rfl ⟨by omega, by omega⟩ (by decide) (fun h => absurd h (by omega)) (fun h => ?_)
      refine z_iconst hx hb dL_state_77 ?_
      refine lv_istore_n (lv' := [(3, .int (iI 0)), (2, .int (iI t)), (1, .int (iI v)), (0, .ref (E 0))]) hx hb dL_state_78 rfl hl (by decide) rfl (fun ls hl => ?_)
      have KI : ∀ (j : Nat) (k v : Int) (Mx : Mem) (ls : Array Slot) (H : Heap) (locs : List Loc) (cells slots : Nat), k + j = 6 → 0 ≤ k → cells + 2 * j + 12 * f ≤ 150 → slots + 6 * (2 * j) + 6 * (12 * f) ≤ 900 → fS3 f (t + 1) (fS3i t j k v Mx).1 (fS3i t j k v Mx).2 = fL_state M → lv_has ls 4 [(3, .int (iI k)), (2, .int (iI t)), (1, .int (iI v)), (0, .ref (E 0))] → CI Mx → SI Mx → TI Mx → va_P D vwCl (VC E cI cC Mx) H → va_D (wA (VC E cI cC M)) (VC E cI cC Mx) → va_S (wA (VC E cI cC M)) s.heap H locs → W p l e (zRmx 20 400 150) s m args below meth c H locs cells slots (MQ below (cnQ D (VC E cI cC) M (some (.int (iI (fL_state M).1))) (fL_state M).2) args s 150 (6 * 150) (wA (VC E cI cC M))) (F0 m 79 ls []) := by
        intro j
        induction j with
        | zero =>
          intro k v Mx ls H locs cells slots hk h0k hc hs hE hl hCx hQx hTx hP hD hS
          refine lv_iload_n hx hb dL_state_79 rfl (lv_at hl 0 rfl) ?_
          refine z_bipush hx hb dL_state_80 (by decide +kernel) ?_
          refine z_icmp_ge hx hb dL_state_82 (tgt := 103) rfl ⟨by omega, by omega⟩ (by decide) (fun h => ?_) (fun h => absurd (show k ≥ 6 by omega) h)
          refine z_iinc (k := 1) (n := 1) (lv' := [(2, .int (iI (t + 1))), (3, .int (iI k)), (1, .int (iI v)), (0, .ref (E 0))]) hx hb dL_state_103 hl rfl (by decide) rfl (fun ls hl => ?_)
          refine lv_goto (tgt := 72) hx hb dL_state_106 (by decide) ?_
          exact ih (t + 1) v Mx ls H locs cells slots (by omega) (by omega) (by omega) (by omega) hE (lv_sub hl [0, 2, 3] rfl) hCx hQx hTx hP hD hS
        | succ j ihj =>
          intro k v Mx ls H locs cells slots hk h0k hc hs hE hl hCx hQx hTx hP hD hS
          have hj1 : ((j + 1 : Nat) : Int) = (j : Int) + 1 := by omega
          rw [hj1] at hk
          refine lv_iload_n hx hb dL_state_79 rfl (lv_at hl 0 rfl) ?_
          refine z_bipush hx hb dL_state_80 (by decide +kernel) ?_
          refine z_icmp_ge hx hb dL_state_82 (tgt := 103) rfl ⟨by omega, by omega⟩ (by decide) (fun h => absurd h (by omega)) (fun h => ?_)
          refine z_bipush hx hb dL_state_85 (by decide +kernel) ?_
          refine lv_iload_n hx hb dL_state_87 rfl (lv_at hl 2 rfl) ?_
          refine z_imul hx hb dL_state_88 ?_
          refine lv_aload_n hx hb dL_state_89 rfl (lv_at hl 3 rfl) ?_
          refine lv_iload_n hx hb dL_state_90 rfl (lv_at hl 1 rfl) ?_
          refine lv_iload_n hx hb dL_state_91 rfl (lv_at hl 0 rfl) ?_
          have hT0 := tableOf_0 (M := Mx) (t := t) (k := k) ⟨by omega, by omega⟩ ⟨by omega, by omega⟩
          have hcon := kX8_tableOf l hst D E cI cC T Mx t k ⟨by omega, by omega⟩ ⟨by omega, by omega⟩ hCx hQx _ _ _ rfl
          refine l1_VX (rest := [.int (iI (31 * v))]) (As := [.int (iI t), .int (iI k)]) S0 hcon (cwV 2 hts gL_state_X8_tableOf rfl rfl rfl (by decide +kernel) ⟨(Nat.le_of_ble_eq_true rfl), (Nat.le_of_ble_eq_true rfl)⟩) (ZC_bl E cI cC T) (l1_Z (ZC_ok E cI cC T M) hS hZ) hK hP hD hS rfl hl.1 rfl (Nat.le_of_ble_eq_true rfl) dL_state_92 ⟨by show cells + 2 ≤ 150; omega, by show slots + 6 * 2 ≤ 900; omega⟩ (fun _ H locs hP hD hS => ?_) (fun hk => absurd hT0 hk)
          refine z_iadd hx hb dL_state_95 ?_
          refine lv_istore_n (lv' := [(1, .int (iI (31 * v + (fX8_tableOf Mx t k).2.1))), (3, .int (iI k)), (2, .int (iI t)), (0, .ref (E 0))]) hx hb dL_state_96 rfl hl (by decide) rfl (fun ls hl => ?_)
          refine z_iinc (k := 1) (n := 1) (lv' := [(3, .int (iI (k + 1))), (1, .int (iI (31 * v + (fX8_tableOf Mx t k).2.1))), (2, .int (iI t)), (0, .ref (E 0))]) hx hb dL_state_97 hl rfl (by decide) rfl (fun ls hl => ?_)
          refine lv_goto (tgt := 79) hx hb dL_state_100 (by decide) ?_
          exact ihj (k + 1) _ _ ls H locs (cells + 2) (slots + 6 * 2) (by omega) (by omega) (by omega) (by omega) hE (lv_sub hl [0, 2, 1, 3] rfl) (CI_S (tableOf_S Mx t k) hCx) (SI_tableOf hCx hQx t k) (TI_S (tableOf_S Mx t k) hTx) hP hD hS
      exact KI 6 0 v Mx ls H locs cells slots (by omega) (by omega) (by omega) (by omega) hE hl hCx hQx hTx hP hD hS
  -- the second loop
  have K2 : ∀ (f : Nat) (n v : Int) (Mx : Mem) (ls : Array Slot) (H : Heap) (locs : List Loc) (cells slots : Nat), n + f = Mx 0 77 → 0 ≤ n → cells + 8 * f + 1 ≤ 114 → slots + 6 * (8 * f + 1) ≤ 684 → fS3 3 0 (fS2 Mx f n v) Mx = fL_state M → lv_has ls 4 [(2, .int (iI n)), (1, .int (iI v)), (0, .ref (E 0))] → CI Mx → SI Mx → TI Mx → va_P D vwCl (VC E cI cC Mx) H → va_D (wA (VC E cI cC M)) (VC E cI cC Mx) → va_S (wA (VC E cI cC M)) s.heap H locs → W p l e (zRmx 20 400 150) s m args below meth c H locs cells slots (MQ below (cnQ D (VC E cI cC) M (some (.int (iI (fL_state M).1))) (fL_state M).2) args s 150 (6 * 150) (wA (VC E cI cC M))) (F0 m 29 ls []) := by
    intro f
    induction f with
    | zero =>
      intro n v Mx ls H locs cells slots hn h0 hc hs hE hl hCx hQx hTx hP hD hS
      have h77 := CI_77 hCx
      refine lv_iload_n hx hb dL_state_29 rfl (lv_at hl 0 rfl) ?_
      refine lv_aload_n hx hb dL_state_30 rfl (lv_at hl 2 rfl) ?_
      refine z_iconst hx hb dL_state_31 ?_
      refine l1_VX (rest := [.int (iI n)]) (As := [.int (iI 0)]) S0 (kX8_account l hst D E cI cC T Mx 0 (by decide) hCx hQx hTx 0 (Mx 0 77) Mx rfl) (cwV 1 hts gL_state_X8_account rfl rfl rfl (by decide +kernel) ⟨(Nat.le_of_ble_eq_true rfl), (Nat.le_of_ble_eq_true rfl)⟩) (ZC_bl E cI cC T) (l1_Z (ZC_ok E cI cC T M) hS hZ) hK hP hD hS rfl hl.1 rfl (Nat.le_of_ble_eq_true rfl) dL_state_32 ⟨by show cells + 1 ≤ 150; omega, by show slots + 6 * 1 ≤ 900; omega⟩ (fun _ H locs hP hD hS => ?_) (fun hk => absurd rfl hk)
      refine z_icmp_ge hx hb dL_state_35 (tgt := 70) rfl ⟨by omega, by omega⟩ ⟨by omega, by omega⟩ (fun h => ?_) (fun h => absurd (show n ≥ Mx 0 77 by omega) h)
      refine z_iconst hx hb dL_state_70 ?_
      refine lv_istore_n (lv' := [(2, .int (iI 0)), (1, .int (iI v)), (0, .ref (E 0))]) hx hb dL_state_71 rfl hl (by decide) rfl (fun ls hl => ?_)
      exact K3 3 0 v Mx ls H locs (cells + 1) (slots + 6 * 1) (by omega) (by omega) (by omega) (by omega) hE hl hCx hQx hTx hP hD hS
    | succ f ih =>
      intro n v Mx ls H locs cells slots hn h0 hc hs hE hl hCx hQx hTx hP hD hS
      have h77 := CI_77 hCx
      have hf1 : ((f + 1 : Nat) : Int) = (f : Int) + 1 := by omega
      rw [hf1] at hn
      refine lv_iload_n hx hb dL_state_29 rfl (lv_at hl 0 rfl) ?_
      refine lv_aload_n hx hb dL_state_30 rfl (lv_at hl 2 rfl) ?_
      refine z_iconst hx hb dL_state_31 ?_
      refine l1_VX (rest := [.int (iI n)]) (As := [.int (iI 0)]) S0 (kX8_account l hst D E cI cC T Mx 0 (by decide) hCx hQx hTx 0 (Mx 0 77) Mx rfl) (cwV 1 hts gL_state_X8_account rfl rfl rfl (by decide +kernel) ⟨(Nat.le_of_ble_eq_true rfl), (Nat.le_of_ble_eq_true rfl)⟩) (ZC_bl E cI cC T) (l1_Z (ZC_ok E cI cC T M) hS hZ) hK hP hD hS rfl hl.1 rfl (Nat.le_of_ble_eq_true rfl) dL_state_32 ⟨by show cells + 1 ≤ 150; omega, by show slots + 6 * 1 ≤ 900; omega⟩ (fun _ H locs hP hD hS => ?_) (fun hk => absurd rfl hk)
      refine z_icmp_ge hx hb dL_state_35 (tgt := 70) rfl ⟨by omega, by omega⟩ ⟨by omega, by omega⟩ (fun h => absurd h (by omega)) (fun h => ?_)
      refine z_iconst hx hb dL_state_38 ?_
      refine lv_istore_n (lv' := [(3, .int (iI 0)), (2, .int (iI n)), (1, .int (iI v)), (0, .ref (E 0))]) hx hb dL_state_39 rfl hl (by decide) rfl (fun ls hl => ?_)
      have KI : ∀ (j : Nat) (k v : Int) (ls : Array Slot) (H : Heap) (locs : List Loc) (cells slots : Nat), k + j = 7 → 0 ≤ k → cells + j + 8 * f + 1 ≤ 114 → slots + 6 * (j + 8 * f + 1) ≤ 684 → fS3 3 0 (fS2 Mx f (n + 1) (fS2i Mx n j k v)) Mx = fL_state M → lv_has ls 4 [(3, .int (iI k)), (2, .int (iI n)), (1, .int (iI v)), (0, .ref (E 0))] → va_P D vwCl (VC E cI cC Mx) H → va_D (wA (VC E cI cC M)) (VC E cI cC Mx) → va_S (wA (VC E cI cC M)) s.heap H locs → W p l e (zRmx 20 400 150) s m args below meth c H locs cells slots (MQ below (cnQ D (VC E cI cC) M (some (.int (iI (fL_state M).1))) (fL_state M).2) args s 150 (6 * 150) (wA (VC E cI cC M))) (F0 m 40 ls []) := by
        intro j
        induction j with
        | zero =>
          intro k v ls H locs cells slots hk h0k hc hs hE hl hP hD hS
          refine lv_iload_n hx hb dL_state_40 rfl (lv_at hl 0 rfl) ?_
          refine z_bipush hx hb dL_state_41 (by decide +kernel) ?_
          refine z_icmp_ge hx hb dL_state_43 (tgt := 64) rfl ⟨by omega, by omega⟩ (by decide) (fun h => ?_) (fun h => absurd (show k ≥ 7 by omega) h)
          refine z_iinc (k := 1) (n := 1) (lv' := [(2, .int (iI (n + 1))), (3, .int (iI k)), (1, .int (iI v)), (0, .ref (E 0))]) hx hb dL_state_64 hl rfl (by decide) rfl (fun ls hl => ?_)
          refine lv_goto (tgt := 29) hx hb dL_state_67 (by decide) ?_
          exact ih (n + 1) v Mx ls H locs cells slots (by omega) (by omega) (by omega) (by omega) hE (lv_sub hl [0, 2, 3] rfl) hCx hQx hTx hP hD hS
        | succ j ihj =>
          intro k v ls H locs cells slots hk h0k hc hs hE hl hP hD hS
          have hj1 : ((j + 1 : Nat) : Int) = (j : Int) + 1 := by omega
          rw [hj1] at hk
          refine lv_iload_n hx hb dL_state_40 rfl (lv_at hl 0 rfl) ?_
          refine z_bipush hx hb dL_state_41 (by decide +kernel) ?_
          refine z_icmp_ge hx hb dL_state_43 (tgt := 64) rfl ⟨by omega, by omega⟩ (by decide) (fun h => absurd h (by omega)) (fun h => ?_)
          refine z_bipush hx hb dL_state_46 (by decide +kernel) ?_
          refine lv_iload_n hx hb dL_state_48 rfl (lv_at hl 2 rfl) ?_
          refine z_imul hx hb dL_state_49 ?_
          refine lv_aload_n hx hb dL_state_50 rfl (lv_at hl 3 rfl) ?_
          refine lv_iload_n hx hb dL_state_51 rfl (lv_at hl 1 rfl) ?_
          refine lv_iload_n hx hb dL_state_52 rfl (lv_at hl 0 rfl) ?_
          have hT0 := napkinOf_0 (M := Mx) (n := n) (k := k) ⟨by omega, by omega⟩ ⟨by omega, by omega⟩
          have hcon := kX8_napkinOf l hst D E cI cC T Mx n k ⟨by omega, by omega⟩ ⟨by omega, by omega⟩ hCx _ _ rfl
          refine l1_VX (rest := [.int (iI (31 * v))]) (As := [.int (iI n), .int (iI k)]) S0 hcon (cwV 2 hts gL_state_X8_napkinOf rfl rfl rfl (by decide +kernel) ⟨(Nat.le_of_ble_eq_true rfl), (Nat.le_of_ble_eq_true rfl)⟩) (ZC_bl E cI cC T) (l1_Z (ZC_ok E cI cC T M) hS hZ) hK hP hD hS rfl hl.1 rfl (Nat.le_of_ble_eq_true rfl) dL_state_53 ⟨by show cells + 1 ≤ 150; omega, by show slots + 6 * 1 ≤ 900; omega⟩ (fun _ H locs hP hD hS => ?_) (fun hk => absurd hT0 hk)
          refine z_iadd hx hb dL_state_56 ?_
          refine lv_istore_n (lv' := [(1, .int (iI (31 * v + (fX8_napkinOf Mx n k).2))), (3, .int (iI k)), (2, .int (iI n)), (0, .ref (E 0))]) hx hb dL_state_57 rfl hl (by decide) rfl (fun ls hl => ?_)
          refine z_iinc (k := 1) (n := 1) (lv' := [(3, .int (iI (k + 1))), (1, .int (iI (31 * v + (fX8_napkinOf Mx n k).2))), (2, .int (iI n)), (0, .ref (E 0))]) hx hb dL_state_58 hl rfl (by decide) rfl (fun ls hl => ?_)
          refine lv_goto (tgt := 40) hx hb dL_state_61 (by decide) ?_
          exact ihj (k + 1) _ ls H locs (cells + 1) (slots + 6 * 1) (by omega) (by omega) (by omega) (by omega) hE (lv_sub hl [0, 2, 1, 3] rfl) hP hD hS
      exact KI 7 0 v ls H locs (cells + 1) (slots + 6 * 1) (by omega) (by omega) (by omega) (by omega) hE hl hP hD hS
  -- the first loop
  have K1 : ∀ (f : Nat) (k v : Int) (Mx : Mem) (ls : Array Slot) (H : Heap) (locs : List Loc) (cells slots : Nat), k + f = 10 → 0 ≤ k → cells + f ≤ 10 → slots + 6 * f ≤ 60 → fS3 3 0 (fS2 (fS1 f k v Mx).2 ((fS1 f k v Mx).2 0 77).toNat 0 (fS1 f k v Mx).1) (fS1 f k v Mx).2 = fL_state M → lv_has ls 4 [(2, .int (iI k)), (1, .int (iI v)), (0, .ref (E 0))] → CI Mx → SI Mx → TI Mx → va_P D vwCl (VC E cI cC Mx) H → va_D (wA (VC E cI cC M)) (VC E cI cC Mx) → va_S (wA (VC E cI cC M)) s.heap H locs → W p l e (zRmx 20 400 150) s m args below meth c H locs cells slots (MQ below (cnQ D (VC E cI cC) M (some (.int (iI (fL_state M).1))) (fL_state M).2) args s 150 (6 * 150) (wA (VC E cI cC M))) (F0 m 4 ls []) := by
    intro f
    induction f with
    | zero =>
      intro k v Mx ls H locs cells slots hk h0 hc hs hE hl hCx hQx hTx hP hD hS
      have h77 := CI_77 hCx
      refine lv_iload_n hx hb dL_state_4 rfl (lv_at hl 0 rfl) ?_
      refine z_bipush hx hb dL_state_5 (by decide +kernel) ?_
      refine z_icmp_ge hx hb dL_state_7 (tgt := 27) rfl ⟨by omega, by omega⟩ (by decide) (fun h => ?_) (fun h => absurd (show k ≥ 10 by omega) h)
      refine z_iconst hx hb dL_state_27 ?_
      refine lv_istore_n (lv' := [(2, .int (iI 0)), (1, .int (iI v)), (0, .ref (E 0))]) hx hb dL_state_28 rfl hl (by decide) rfl (fun ls hl => ?_)
      exact K2 (Mx 0 77).toNat 0 v Mx ls H locs cells slots (by omega) (by omega) (by omega) (by omega) hE hl hCx hQx hTx hP hD hS
    | succ f ih =>
      intro k v Mx ls H locs cells slots hk h0 hc hs hE hl hCx hQx hTx hP hD hS
      have hf1 : ((f + 1 : Nat) : Int) = (f : Int) + 1 := by omega
      rw [hf1] at hk
      refine lv_iload_n hx hb dL_state_4 rfl (lv_at hl 0 rfl) ?_
      refine z_bipush hx hb dL_state_5 (by decide +kernel) ?_
      refine z_icmp_ge hx hb dL_state_7 (tgt := 27) rfl ⟨by omega, by omega⟩ (by decide) (fun h => absurd h (by omega)) (fun h => ?_)
      refine z_bipush hx hb dL_state_10 (by decide +kernel) ?_
      refine lv_iload_n hx hb dL_state_12 rfl (lv_at hl 1 rfl) ?_
      refine z_imul hx hb dL_state_13 ?_
      refine lv_aload_n hx hb dL_state_14 rfl (lv_at hl 2 rfl) ?_
      refine lv_iload_n hx hb dL_state_15 rfl (lv_at hl 0 rfl) ?_
      have hT0 := account_0 Mx (k := k) ⟨by omega, by omega⟩
      have hcon := kX8_account l hst D E cI cC T Mx k ⟨by omega, by omega⟩ hCx hQx hTx _ _ _ rfl
      refine l1_VX (rest := [.int (iI (31 * v))]) (As := [.int (iI k)]) S0 hcon (cwV 1 hts gL_state_X8_account rfl rfl rfl (by decide +kernel) ⟨(Nat.le_of_ble_eq_true rfl), (Nat.le_of_ble_eq_true rfl)⟩) (ZC_bl E cI cC T) (l1_Z (ZC_ok E cI cC T M) hS hZ) hK hP hD hS rfl hl.1 rfl (Nat.le_of_ble_eq_true rfl) dL_state_16 ⟨by show cells + 1 ≤ 150; omega, by show slots + 6 * 1 ≤ 900; omega⟩ (fun _ H locs hP hD hS => ?_) (fun hk => absurd hT0 hk)
      refine z_iadd hx hb dL_state_19 ?_
      refine lv_istore_n (lv' := [(1, .int (iI (31 * v + (fX8_account Mx k).2.1))), (2, .int (iI k)), (0, .ref (E 0))]) hx hb dL_state_20 rfl hl (by decide) rfl (fun ls hl => ?_)
      refine z_iinc (k := 1) (n := 1) (lv' := [(2, .int (iI (k + 1))), (1, .int (iI (31 * v + (fX8_account Mx k).2.1))), (0, .ref (E 0))]) hx hb dL_state_21 hl rfl (by decide) rfl (fun ls hl => ?_)
      refine lv_goto (tgt := 4) hx hb dL_state_24 (by decide) ?_
      exact ih (k + 1) _ _ ls H locs (cells + 1) (slots + 6 * 1) (by omega) (by omega) (by omega) (by omega) hE (lv_sub hl [0, 1, 2] rfl) (CI_S (account_S Mx k) hCx) (SI_account hCx hQx (k := k) ⟨by omega, by omega⟩) (TI_S (account_S Mx k) hTx) hP hD hS
  refine z_iconst hx hb dL_state_0 ?_
  refine lv_istore_n (lv' := [(1, .int (iI 0)), (0, .ref (E 0))]) hx hb dL_state_1 rfl hl (by decide) rfl (fun ls hl => ?_)
  refine z_iconst hx hb dL_state_2 ?_
  refine lv_istore_n (lv' := [(2, .int (iI 0)), (1, .int (iI 0)), (0, .ref (E 0))]) hx hb dL_state_3 rfl hl (by decide) rfl (fun ls hl => ?_)
  exact K1 10 0 0 M ls _ _ 0 0 (by omega) (by omega) (by omega) (by omega) rfl hl hC hQ hT hP hD hS
