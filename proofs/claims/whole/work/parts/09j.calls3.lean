/-! THE CALLS, third part: the buffer, undo, the snapshot, refusals, lines. -/
theorem mmU : ∀ r ∈ ([0, 2, 3, 5, 6, 13, 15, 18, 19, 20, 21, 22, 25, 27, 28] : List Nat), Nat.beq r 4 = false ∧ Nat.beq r 17 = false ∧ Nat.beq r 26 = false := by decide
theorem s_type {C G : Mem} (h : RelR C G) {ch : Int} (hc : 0 ≤ ch ∧ ch < 65536) : Same (fX8_type C ch) (fX9_type G ch) [5] := by
  obtain ⟨hw, hs, hh, hN, ⟨t1, t2, t3, t4, t5⟩, hL, hx⟩ := h
  have hR : RelR C G := ⟨hw, hs, hh, hN, ⟨t1, t2, t3, t4, t5⟩, hL, hx⟩
  have n := RI_17 t2
  unfold fX8_type fX9_type fX7_isFull
  rw [t4]
  by_cases hf : G 17 0 = 60
  · rw [if_pos hf, if_neg (show ¬ (if G 17 0 < 60 then (0 : Int) else 1) = 0 by rw [if_neg (by omega)]; decide)]
    exact sm_f1 hR (by decide)
  · rw [if_neg hf, if_pos (show (if G 17 0 < 60 then (0 : Int) else 1) = 0 by rw [if_pos (by omega)])]
    have e : fX7_append C ch = msf (mst C 10 (G 17 0) ch) 11 (G 17 0 + 1) := by
      unfold fX7_append
      rw [t4, if_neg (by omega), if_neg (by omega)]
    have ti := TI_append t1 ch hc
    rw [e] at ti ⊢
    have cf : ∀ r : Nat, Nat.beq r 10 = false → Nat.beq r 11 = false → msf (mst C 10 (G 17 0) ch) 11 (G 17 0 + 1) r = C r := fun r a b => by rw [msf_o b, mst_o a]
    have gf : ∀ r : Nat, Nat.beq r 4 = false → Nat.beq r 17 = false → msf (mst G 4 (G 17 0) ch) 17 (G 17 0 + 1) r = G r := fun r a b => by rw [msf_o b, mst_o a]
    have hr : RelR (msf (mst C 10 (G 17 0) ch) 11 (G 17 0 + 1)) (msf (mst G 4 (G 17 0) ch) 17 (G 17 0 + 1)) := by
      refine ⟨by rw [cf 0 rfl rfl, gf 0 rfl rfl]; exact hw, SI_of (cf 1 rfl rfl) (cf 2 rfl rfl) (cf 3 rfl rfl) (cf 4 rfl rfl) (cf 7 rfl rfl) hs, RH_of hh (cf 8 rfl rfl) (cf 9 rfl rfl) (gf 2 rfl rfl) (gf 13 rfl rfl), RN_of hN (cf 15 rfl rfl) (cf 16 rfl rfl) (gf 3 rfl rfl) (gf 15 rfl rfl), ⟨ti, ?_, ?_, rfl, ?_⟩, RLn_of hL (cf 12 rfl rfl) (cf 13 rfl rfl) (gf 5 rfl rfl) (gf 25 rfl rfl), RX_of hx (cf 17 rfl rfl) (cf 18 rfl rfl) (cf 19 rfl rfl) (gf 18 rfl rfl) (gf 19 rfl rfl) (gf 20 rfl rfl) (gf 21 rfl rfl) (gf 22 rfl rfl) (gf 23 rfl rfl)⟩
      · refine ⟨⟨show 0 ≤ G 17 0 + 1 by omega, show G 17 0 + 1 ≤ 60 by omega⟩, t2.2.1, t2.2.2.1, fun j a b => ?_⟩
        show 0 ≤ up (G 4) (G 17 0) ch j ∧ up (G 4) (G 17 0) ch j < 65536
        by_cases hj : j = G 17 0
        · rw [hj, up_e]; exact hc
        · rw [up_n hj]; exact t2.2.2.2 j a b
      · intro j a b
        exact t3 j a b
      · intro j a b
        have b2 : j < G 17 0 + 1 := b
        show up (C 10) (G 17 0) ch j = up (G 4) (G 17 0) ch j
        by_cases hj : j = G 17 0
        · rw [hj, up_e, up_e]
        · rw [up_n hj, up_n hj]; exact t5 j a (by omega)
    exact sm_d2 hr rfl
theorem msf_s {M : Mem} {k : Nat} {v z : Int} : msf M k v k z = v := by
  unfold msf
  rw [Nat.beq_refl]
  rfl
theorem s_undo {C G : Mem} (h : RelR C G) : Same (fX8_undo C) (fX9_undo G) [5] := by
  have hR := h
  obtain ⟨hw, hs, ⟨⟨e9, n0, n8⟩, hh⟩, hN, hT, hL, hx⟩ := h
  unfold fX8_undo fX9_undo fX2_size
  rw [e9]
  by_cases hc : G 13 0 = 0
  · rw [if_pos hc, if_pos hc]
    exact sm_f1 hR (by decide)
  · rw [if_neg hc, if_neg hc]
    have e : fX2_pop C = mcp (msf C 9 (G 13 0 - 1)) 8 ((G 13 0 - 1) * 80) 14 0 80 := by
      unfold fX2_pop
      rw [e9, if_neg (by omega), if_neg (by omega)]
    rw [e]
    have cf : ∀ r : Nat, Nat.beq r 0 = false → Nat.beq r 14 = false → Nat.beq r 9 = false → fX6_copyFrom_b (mcp (msf C 9 (G 13 0 - 1)) 8 ((G 13 0 - 1) * 80) 14 0 80) r = C r := fun r a b d => by
      rw [fr_fX6_copyFrom_b a, mcp_o b, msf_o d]
    have c9 : fX6_copyFrom_b (mcp (msf C 9 (G 13 0 - 1)) 8 ((G 13 0 - 1) * 80) 14 0 80) 9 0 = G 13 0 - 1 := by rw [fr_fX6_copyFrom_b rfl]; rfl
    have gf : ∀ r : Nat, Nat.beq r 0 = false → Nat.beq r 13 = false → fX9_copy_hg (msf G 13 (G 13 0 - 1)) ((G 13 0 - 1) * 82) 0 r = G r := fun r a b => by rw [fr_fX9_copy_hg _ _ a, msf_o b]
    have g13 : fX9_copy_hg (msf G 13 (G 13 0 - 1)) ((G 13 0 - 1) * 82) 0 13 0 = G 13 0 - 1 := by rw [fr_fX9_copy_hg _ _ rfl]; rfl
    have hr : RelR (fX6_copyFrom_b (mcp (msf C 9 (G 13 0 - 1)) 8 ((G 13 0 - 1) * 80) 14 0 80)) (fX9_copy_hg (msf G 13 (G 13 0 - 1)) ((G 13 0 - 1) * 82) 0) := by
      refine ⟨RW_ext (hh (G 13 0 - 1) (by omega) (by omega)) (fun j a b => ?_) (fun j a b => ?_), SI_of (cf 1 rfl rfl rfl) (cf 2 rfl rfl rfl) (cf 3 rfl rfl rfl) (cf 4 rfl rfl rfl) (cf 7 rfl rfl rfl) hs, ?_, RN_of hN (cf 15 rfl rfl rfl) (cf 16 rfl rfl rfl) (gf 3 rfl rfl) (gf 15 rfl rfl), RT_of hT (cf 10 rfl rfl rfl) (cf 11 rfl rfl rfl) (gf 4 rfl rfl) (gf 6 rfl rfl) (gf 17 rfl rfl) (gf 27 rfl rfl) (gf 28 rfl rfl), RLn_of hL (cf 12 rfl rfl rfl) (cf 13 rfl rfl rfl) (gf 5 rfl rfl) (gf 25 rfl rfl), RX_of hx (cf 17 rfl rfl rfl) (cf 18 rfl rfl rfl) (cf 19 rfl rfl rfl) (gf 18 rfl rfl) (gf 19 rfl rfl) (gf 20 rfl rfl) (gf 21 rfl rfl) (gf 22 rfl rfl) (gf 23 rfl rfl)⟩
      · show cpI (cpI (C 8) (C 14) ((G 13 0 - 1) * 80) 0 80) _ 0 0 80 j = C 8 (80 * (G 13 0 - 1) + j)
        unfold cpI
        rw [if_pos (by omega), if_pos (by omega), show (G 13 0 - 1) * 80 + (0 + (j - 0) - 0) = 80 * (G 13 0 - 1) + j by omega]
      · rw [cp_hg, if_pos (by omega), msf_o (k := 13) (r := 2) rfl, show (G 13 0 - 1) * 82 + (j - 0) = 82 * (G 13 0 - 1) + j by omega]
      · unfold RH
        rw [c9, g13, cf 8 rfl rfl rfl, gf 2 rfl rfl]
        exact ⟨⟨rfl, by omega, by omega⟩, fun i a b => hh i a (by omega)⟩
    exact sm_d2 hr (by rw [c9, g13])
theorem s_save {C G : Mem} (h : RelR C G) : RelR (fX8_save C).2 (fX9_save G).2 ∧ (fX9_save G).2 26 0 = 0 ∧ (fX8_save C).1 = (fX9_save G).1 := by
  obtain ⟨hw, hs, hh, hN, hT, hL, hx⟩ := h
  have z := SR_n (RW_S hw)
  unfold fX8_save fX9_save
  have cf : ∀ r : Nat, Nat.beq r 15 = false → Nat.beq r 16 = false → msf (fX6_copyTo_s C) 16 1 r = C r := fun r a b => by rw [msf_o b, fr_fX6_copyTo_s a]
  have gf : ∀ r : Nat, Nat.beq r 3 = false → Nat.beq r 15 = false → msf (fX9_copy_gs G 0 0) 15 1 r = G r := fun r a b => by rw [msf_o b, fr_fX9_copy_gs _ _ a]
  have hr : RelR (msf (fX6_copyTo_s C) 16 1) (msf (fX9_copy_gs G 0 0) 15 1) := by
    refine ⟨by rw [cf 0 rfl rfl, gf 0 rfl rfl]; exact hw, SI_of (cf 1 rfl rfl) (cf 2 rfl rfl) (cf 3 rfl rfl) (cf 4 rfl rfl) (cf 7 rfl rfl) hs, RH_of hh (cf 8 rfl rfl) (cf 9 rfl rfl) (gf 2 rfl rfl) (gf 13 rfl rfl), ⟨by rw [msf_s, msf_s], ⟨by rw [msf_s]; decide, by rw [msf_s]; decide⟩, fun _ => ?_⟩, RT_of hT (cf 10 rfl rfl) (cf 11 rfl rfl) (gf 4 rfl rfl) (gf 6 rfl rfl) (gf 17 rfl rfl) (gf 27 rfl rfl) (gf 28 rfl rfl), RLn_of hL (cf 12 rfl rfl) (cf 13 rfl rfl) (gf 5 rfl rfl) (gf 25 rfl rfl), RX_of hx (cf 17 rfl rfl) (cf 18 rfl rfl) (cf 19 rfl rfl) (gf 18 rfl rfl) (gf 19 rfl rfl) (gf 20 rfl rfl) (gf 21 rfl rfl) (gf 22 rfl rfl) (gf 23 rfl rfl)⟩
    refine RW_ext hw (fun j a b => ?_) (fun j a b => ?_)
    · show cpI (C 0) (C 15) 0 0 80 j = C 0 j
      unfold cpI
      rw [if_pos (by omega), show 0 + (j - 0) = j by omega]
    · rw [msf_o (k := 15) (r := 3) rfl, cp_gs, if_pos (by omega), show 0 + (j - 0) = j by omega]
  refine ⟨RelR_done hr _, rfl, ?_⟩
  have e1 : fX6_napkins (fX6_copyTo_s C) = C 0 77 := by unfold fX6_napkins; rw [fr_fX6_copyTo_s rfl]
  have e2 : msf (fX9_copy_gs G 0 0) 15 1 0 0 = G 0 0 := by rw [gf 0 rfl rfl]
  unfold fX9_done
  dsimp only
  rw [e1, e2, z.1]
theorem s_restore {C G : Mem} (h : RelR C G) : Same (fX8_restore C) (fX9_restore G) [5] := by
  have hR := h
  obtain ⟨hw, hs, hh, ⟨e16, n16, hsn⟩, hT, hL, hx⟩ := h
  unfold fX8_restore fX9_restore
  rw [e16]
  by_cases hc : G 15 0 = 0
  · rw [if_pos hc, if_pos hc]
    exact sm_f1 hR (by decide)
  · rw [if_neg hc, if_neg hc]
    have hr3 := hsn hc
    have cf : ∀ r : Nat, Nat.beq r 0 = false → Nat.beq r 9 = false → fX2_empty (fX6_copyFrom_s C) r = C r := fun r a b => by rw [fr_fX2_empty b, fr_fX6_copyFrom_s a]
    have gf : ∀ r : Nat, Nat.beq r 0 = false → Nat.beq r 13 = false → msf (fX9_copy_sg G 0 0) 13 0 r = G r := fun r a b => by rw [msf_o b, fr_fX9_copy_sg _ _ a]
    have w0 : RW (fX2_empty (fX6_copyFrom_s C) 0) (msf (fX9_copy_sg G 0 0) 13 0 0) := by
      refine RW_ext hr3 (fun j a b => ?_) (fun j a b => ?_)
      · show cpI (C 15) (C 0) 0 0 80 j = C 15 j
        unfold cpI
        rw [if_pos (by omega), show 0 + (j - 0) = j by omega]
      · rw [msf_o (k := 13) (r := 0) rfl, cp_sg, if_pos (by omega), show 0 + (j - 0) = j by omega]
    have hr : RelR (fX2_empty (fX6_copyFrom_s C)) (msf (fX9_copy_sg G 0 0) 13 0) := by
      refine ⟨w0, SI_of (cf 1 rfl rfl) (cf 2 rfl rfl) (cf 3 rfl rfl) (cf 4 rfl rfl) (cf 7 rfl rfl) hs, ⟨⟨by unfold fX2_empty; rw [msf_s, msf_s], by rw [msf_s]; decide, by rw [msf_s]; decide⟩, fun i a b => ?_⟩, RN_of ⟨e16, n16, hsn⟩ (cf 15 rfl rfl) (cf 16 rfl rfl) (gf 3 rfl rfl) (gf 15 rfl rfl), RT_of hT (cf 10 rfl rfl) (cf 11 rfl rfl) (gf 4 rfl rfl) (gf 6 rfl rfl) (gf 17 rfl rfl) (gf 27 rfl rfl) (gf 28 rfl rfl), RLn_of hL (cf 12 rfl rfl) (cf 13 rfl rfl) (gf 5 rfl rfl) (gf 25 rfl rfl), RX_of hx (cf 17 rfl rfl) (cf 18 rfl rfl) (cf 19 rfl rfl) (gf 18 rfl rfl) (gf 19 rfl rfl) (gf 20 rfl rfl) (gf 21 rfl rfl) (gf 22 rfl rfl) (gf 23 rfl rfl)⟩
      rw [msf_s] at b
      omega
    exact sm_d2 hr (SR_n (RW_S w0)).1
theorem s_errorPosition {C G : Mem} (h : RelR C G) : Same ((fX8_errorPosition C).1, (fX8_errorPosition C).2, C) (fX9_errorPosition G) [4] := by
  have x := h.2.2.2.2.2.2.1
  unfold fX8_errorPosition fX9_errorPosition
  rw [x.1]
  by_cases hc : G 18 0 = -1
  · rw [if_pos hc, if_pos hc]
    exact sm_f1 h (by decide)
  · rw [if_neg hc, if_neg hc]
    exact sm_d2 h rfl
theorem s_refusal {C G : Mem} (h : RelR C G) {a b : Int} : Same ((fX8_refusal C a b).1, (fX8_refusal C a b).2, C) (fX9_refusal G a b) [4] := by
  obtain ⟨-, x2, x3, -⟩ := h.2.2.2.2.2.2
  unfold fX8_refusal fX9_refusal
  by_cases ha : a = 0
  · rw [if_pos ha, if_pos ha]
    by_cases hc : G 19 0 = 0
    · have := x2.2.2.2.2.2 hc
      rw [if_pos hc, if_pos (by omega)]
      exact sm_f1 h (by decide)
    · rw [if_neg hc, if_neg (by omega)]
      by_cases hb : b = 0
      · rw [if_pos hb, if_pos hb]
        exact sm_d2 h (by omega)
      · rw [if_neg hb, if_neg hb, if_pos ha]
        exact sm_d2 h (by omega)
  · rw [if_neg ha, if_neg ha]
    by_cases hc : G 21 0 = 0
    · have := x3.2.2.2.2.2 hc
      rw [if_pos hc, if_pos (by omega)]
      exact sm_f1 h (by decide)
    · rw [if_neg hc, if_neg (by omega)]
      by_cases hb : b = 0
      · rw [if_pos hb, if_pos hb]
        exact sm_d2 h (by omega)
      · rw [if_neg hb, if_neg hb, if_neg ha]
        exact sm_d2 h (by omega)
theorem s_written {C G : Mem} (h : RelR C G) (i : Int) : RelR C (fX9_written G i).2 ∧ AnsL (fX8_written C i).1 [4] ((fX9_written G i).2 26 0) ∧ ((fX8_written C i).1 = 0 → (fX8_written C i).2 = (fX9_written G i).1) := by
  obtain ⟨l1, l2, l3, l4⟩ := h.2.2.2.2.2.1
  have n := LN_i l1
  have d := dX9_in i 0 (G 25 0 - 1)
  unfold fX8_written fX9_written fX3_length
  rw [l3]
  by_cases hc : fX9_in i 0 (G 25 0 - 1) = 0
  · rw [if_pos hc]
    by_cases h0 : i < 0
    · rw [if_pos h0]
      exact ⟨RelR_26 h 1, al_1 rfl, fun q => absurd (show (4 : Int) = 0 from q) (by decide)⟩
    · rw [if_neg h0, if_neg (by omega)]
      exact ⟨RelR_26 h 1, al_1 rfl, fun q => absurd (show (4 : Int) = 0 from q) (by decide)⟩
  · rw [if_neg hc, if_neg (by omega), if_pos (by omega)]
    refine ⟨RelR_26 h 0, al_0 rfl, fun _ => ?_⟩
    show fX3_at C i = G 5 i
    unfold fX3_at
    rw [if_neg (by omega), if_neg (by omega), if_neg (by omega)]
    exact l4 i (by omega) (by omega)
/-! lines -/
theorem ln_add {A B : Mem} (h : RLn A B) (hb : B 25 0 < 23) {c : Int} (hc : 0 ≤ c ∧ c < 65536) : RLn (fX3_add A c) (fX9_writes B c) ∧ fX9_writes B c 25 0 = B 25 0 + 1 := by
  obtain ⟨l1, l2, l3, l4⟩ := h
  have n := LN_i l1
  have la := LN_add l1 c hc
  have e : fX3_add A c = msf (mst A 12 (B 25 0) c) 13 (B 25 0 + 1) := by
    unfold fX3_add
    rw [l3, if_neg (by omega), if_neg (by omega)]
  rw [e] at la ⊢
  refine ⟨⟨la, ⟨⟨show 0 ≤ B 25 0 + 1 by omega, show B 25 0 + 1 ≤ 60 by omega⟩, fun j a b => ?_⟩, rfl, fun j a b => ?_⟩, rfl⟩
  · show 0 ≤ up (B 5) (B 25 0) c j ∧ up (B 5) (B 25 0) c j < 65536
    by_cases hj : j = B 25 0
    · rw [hj, up_e]; exact hc
    · rw [up_n hj]; exact l2.2 j a b
  · have b2 : j < B 25 0 + 1 := b
    show up (A 12) (B 25 0) c j = up (B 5) (B 25 0) c j
    by_cases hj : j = B 25 0
    · rw [hj, up_e, up_e]
    · rw [up_n hj, up_n hj]; exact l4 j a (by omega)
theorem add_o {A : Mem} {c : Int} {r : Nat} (h12 : Nat.beq r 12 = false) (h13 : Nat.beq r 13 = false) : fX3_add A c r = A r := fr_fX3_add c h12 h13
theorem wri_o {B : Mem} {c : Int} {r : Nat} (h5 : Nat.beq r 5 = false) (h25 : Nat.beq r 25 = false) : fX9_writes B c r = B r := fr_fX9_writes c h5 h25
theorem RelR_line {C G C' G' : Mem} (h : RelR C G) (hl : RLn C' G') (cf : ∀ r : Nat, Nat.beq r 12 = false → Nat.beq r 13 = false → C' r = C r) (gf : ∀ r : Nat, Nat.beq r 5 = false → Nat.beq r 25 = false → G' r = G r) : RelR C' G' := by
  obtain ⟨hw, hs, hh, hN, hT, -, hx⟩ := h
  exact ⟨by rw [cf 0 rfl rfl, gf 0 rfl rfl]; exact hw, SI_of (cf 1 rfl rfl) (cf 2 rfl rfl) (cf 3 rfl rfl) (cf 4 rfl rfl) (cf 7 rfl rfl) hs, RH_of hh (cf 8 rfl rfl) (cf 9 rfl rfl) (gf 2 rfl rfl) (gf 13 rfl rfl), RN_of hN (cf 15 rfl rfl) (cf 16 rfl rfl) (gf 3 rfl rfl) (gf 15 rfl rfl), RT_of hT (cf 10 rfl rfl) (cf 11 rfl rfl) (gf 4 rfl rfl) (gf 6 rfl rfl) (gf 17 rfl rfl) (gf 27 rfl rfl) (gf 28 rfl rfl), hl, RX_of hx (cf 17 rfl rfl) (cf 18 rfl rfl) (cf 19 rfl rfl) (gf 18 rfl rfl) (gf 19 rfl rfl) (gf 20 rfl rfl) (gf 21 rfl rfl) (gf 22 rfl rfl) (gf 23 rfl rfl)⟩
def smB (f : Int) : Int := if f = 1 then 115 else if f = 2 then 102 else if f = 3 then 98 else if f = 4 then 99 else 46
theorem smB_e {f : Int} (h : 0 ≤ f ∧ f ≤ 4) : fX8_letterIn_s f = smB f ∧ 0 ≤ smB f ∧ smB f < 65536 := by
  have c : f = 0 ∨ f = 1 ∨ f = 2 ∨ f = 3 ∨ f = 4 := by omega
  rcases c with rfl | rfl | rfl | rfl | rfl <;> decide
theorem shm {M Bx : Mem} {t p : Int} (k : Nat) (hp : ¬ Bx 0 (55 + t) ≤ p) : fX9_show_L1 M t (k + 1) Bx p = fX9_show_L1 M t k (if Bx 0 (35 + fX9_at Bx t p) ≤ 0 then fX9_writes (fX9_writes Bx (48 + fX9_at Bx t p)) (smB (Bx 0 (15 + fX9_at Bx t p))) else fX9_writes (fX9_writes (fX9_writes Bx (48 + fX9_at Bx t p)) (smB (Bx 0 (15 + fX9_at Bx t p)))) 42) (p + 1) := by
  have w : ∀ c d z : Int, fX9_writes (fX9_writes Bx c) d 0 z = Bx 0 z := fun c d z => by rw [wri_o rfl rfl, wri_o rfl rfl]
  rw [fX9_show_L1, if_neg hp]
  unfold smB
  rw [w, w, w, w, w]
  by_cases h1 : Bx 0 (15 + fX9_at Bx t p) = 1
  · rw [if_pos h1, if_pos h1]
    split <;> rfl
  rw [if_neg h1, if_neg h1]
  by_cases h2 : Bx 0 (15 + fX9_at Bx t p) = 2
  · rw [if_pos h2, if_pos h2]
    split <;> rfl
  rw [if_neg h2, if_neg h2]
  by_cases h3 : Bx 0 (15 + fX9_at Bx t p) = 3
  · rw [if_pos h3, if_pos h3]
    split <;> rfl
  rw [if_neg h3, if_neg h3]
  by_cases h4 : Bx 0 (15 + fX9_at Bx t p) = 4
  · rw [if_pos h4, if_pos h4]
    split <;> rfl
  rw [if_neg h4, if_neg h4]
  split <;> rfl
theorem shw_L {C G M M2 : Mem} (h : RelR C G) {t : Int} (ht : 0 ≤ t ∧ t < 3) : ∀ (k k' : Nat) (Mx Bx : Mem) (p : Int), 0 ≤ p → p ≤ G 0 (55 + t) → G 0 (55 + t) - p < k → G 0 (55 + t) - p < k' → RLn Mx Bx → Bx 25 0 ≤ 3 * p → (∀ r : Nat, Nat.beq r 12 = false → Nat.beq r 13 = false → Mx r = C r) → (∀ r : Nat, Nat.beq r 5 = false → Nat.beq r 25 = false → Bx r = G r) → Same (fX8_show_L1 M t k Mx p) (fX9_show_L1 M2 t k' Bx p) [1] := by
  have l6 := RW_6 h.1 t ht.1 ht.2
  have z := SR_n (RW_S h.1)
  intro k
  induction k with
  | zero => intro k' Mx Bx p _ _ _ _; omega
  | succ k ih =>
    intro k' Mx Bx p h0 h1 h2 h3 hl hb cf gf
    cases k' with
    | zero => omega
    | succ k' =>
      have el : fX6_laidOn Mx t = G 0 (55 + t) := by rw [laid_e ht, cf 0 rfl rfl]; exact (SR_t (RW_S h.1) t ht.1 ht.2).1
      by_cases hc : G 0 (55 + t) ≤ p
      · rw [fX8_show_L1, fX9_show_L1, el, gf 0 rfl rfl, if_pos hc, if_pos hc]
        exact sm_d2 (RelR_line h hl cf gf) hl.2.2.1
      · rw [fX8_show_L1, el, if_neg hc, shm k' (by rw [gf 0 rfl rfl]; exact hc)]
        have s := SR_s (RW_S h.1) t p ht.1 ht.2 h0 (by omega)
        have gx := (RW_G h.1)
        have x0 := (GI_64 gx (64 + 6 * t + p) (by omega) (by omega)).1
        have ea : fX9_at Bx t p = G 0 (64 + 6 * t + p) := by unfold fX9_at; rw [gf 0 rfl rfl]
        have es : fX6_seatedAt Mx t p = G 0 (64 + 6 * t + p) := by rw [seated_e ht (by omega), cf 0 rfl rfl]; exact s.1
        rw [ea, es, gf 0 rfl rfl]
        generalize G 0 (64 + 6 * t + p) = n at *
        have w := RW_1525 h.1 (n := n) ⟨x0, by omega⟩
        have q := SR_j (RW_S h.1) n x0 (by omega)
        have dg : ∀ d : Int, fX3_addDigit Mx d = fX3_add Mx (48 + d) := fun d => rfl
        have f1 : fX6_foldOf (fX3_add Mx (48 + n)) n = G 0 (15 + n) := by unfold fX6_foldOf; rw [ofN_e x0 (by omega), add_o rfl rfl, cf 0 rfl rfl]; exact q.2.1
        have sm := smB_e w.1
        rw [dg, f1, sm.1]
        have f2 : fX6_stainsOf (fX3_add (fX3_add Mx (48 + n)) (smB (G 0 (15 + n)))) n = G 0 (35 + n) := by unfold fX6_stainsOf; rw [ofN_e x0 (by omega), add_o rfl rfl, add_o rfl rfl, cf 0 rfl rfl]; exact q.2.2.2.1
        rw [f2]
        obtain ⟨a1, a2⟩ := ln_add hl (by omega) (c := 48 + n) (by omega)
        obtain ⟨b1, b2⟩ := ln_add a1 (by omega) (c := smB (G 0 (15 + n))) sm.2
        by_cases hs : G 0 (35 + n) ≤ 0
        · rw [if_pos hs, if_pos hs]
          exact ih _ _ _ _ (by omega) (by omega) (by omega) (by omega) b1 (by omega) (fun r x y => by rw [add_o x y, add_o x y, cf r x y]) (fun r x y => by rw [wri_o x y, wri_o x y, gf r x y])
        · rw [if_neg hs, if_neg hs]
          obtain ⟨c1, c2⟩ := ln_add b1 (by omega) (c := 42) (by decide)
          exact ih _ _ _ _ (by omega) (by omega) (by omega) (by omega) c1 (by omega) (fun r x y => by rw [add_o x y, add_o x y, add_o x y, cf r x y]) (fun r x y => by rw [wri_o x y, wri_o x y, wri_o x y, gf r x y])
theorem ln_0 {C G : Mem} (h : RLn C G) : RLn (fX3_empty C) (msf G 25 0) := ⟨LN_empty h.1, ⟨⟨(show (0 : Int) ≤ 0 by decide), (show (0 : Int) ≤ 60 by decide)⟩, h.2.1.2⟩, rfl, fun j a b => by have b2 : j < 0 := b; omega⟩
theorem s_show {C G : Mem} (h : RelR C G) (t : Int) : Same (fX8_show C t) (fX9_show G t) [1] := by
  unfold fX8_show fX9_show
  by_cases hc : fX9_isTable t = 0
  · rw [ck_0 C hc, if_neg (by decide), if_pos hc]
    exact sm_f1 h (by decide)
  · have ht := tabI t hc
    have l6 := RW_6 h.1 t ht.1 ht.2
    rw [(ck_1 C hc).1, if_pos rfl, if_neg hc]
    exact shw_L h ht 8 7 _ _ 0 (by decide) l6.1 (by omega) (by omega) (ln_0 h.2.2.2.2.2.1) (by rw [msf_s]; decide) (fun r x y => fr_fX3_empty y) (fun r x y => msf_o y)
theorem GL_of0 {A B : Mem} (h : A 0 = B 0) (t : Int) : GL A t = GL B t := by
  unfold GL gS gF
  rw [h]
theorem GI_of0 {A B : Mem} (h : A 0 = B 0) (hB : GI B) : GI A := GI_of h hB
theorem cnt_of0 {A B : Mem} (h : A 0 = B 0) (hB : GI B) {t : Int} (ht : 0 ≤ t ∧ t < 3) : fX9_countOf A t 0 = fX9_countOf B t 0 := by rw [g_size (GI_of0 h hB) ht, g_size hB ht, GL_of0 h]
theorem sai_of0 {A B : Mem} (h : A 0 = B 0) (hB : GI B) {t i : Int} (ht : 0 ≤ t ∧ t < 3) (hi : 0 ≤ i) : fX9_saidAt A t i = fX9_saidAt B t i := by rw [g_said (GI_of0 h hB) ht hi, g_said hB ht hi, GL_of0 h]
/-- what a said napkin adds to the class's line, and to the model's -/
theorem tel_1 {C G Mx Bx : Mem} (h : RW (C 0) (G 0)) {n : Int} (hn : 0 ≤ n ∧ n < 10) (hf : 1 ≤ G 0 (15 + n) ∧ G 0 (15 + n) ≤ 4) (hl : RLn Mx Bx) (hb : Bx 25 0 ≤ 20) (m0 : Mx 0 = C 0) (b0 : Bx 0 = G 0) :
    ∃ A B : Mem, fX9_tellsOne Bx n = B ∧ RLn A B ∧ B 25 0 ≤ Bx 25 0 + 3 ∧ (∀ r : Nat, Nat.beq r 12 = false → Nat.beq r 13 = false → A r = Mx r) ∧ (∀ r : Nat, Nat.beq r 5 = false → Nat.beq r 25 = false → B r = Bx r) ∧
      A = (if (fX6_foldOf (fX3_add Mx (fX8_letterIn_b (fX6_foldOf Mx n))) n) = 4 then (if (fX6_stainsOf (fX3_add Mx (fX8_letterIn_b (fX6_foldOf Mx n))) n) ≤ 0 then fX3_add Mx (fX8_letterIn_b (fX6_foldOf Mx n)) else fX3_add (fX3_add Mx (fX8_letterIn_b (fX6_foldOf Mx n))) 63) else (if (fX6_stainsOf (fX3_addDigit (fX3_add Mx (fX8_letterIn_b (fX6_foldOf Mx n))) (fX6_colourOf (fX3_add Mx (fX8_letterIn_b (fX6_foldOf Mx n))) n)) n) ≤ 0 then fX3_addDigit (fX3_add Mx (fX8_letterIn_b (fX6_foldOf Mx n))) (fX6_colourOf (fX3_add Mx (fX8_letterIn_b (fX6_foldOf Mx n))) n) else fX3_add (fX3_addDigit (fX3_add Mx (fX8_letterIn_b (fX6_foldOf Mx n))) (fX6_colourOf (fX3_add Mx (fX8_letterIn_b (fX6_foldOf Mx n))) n)) 63)) := by
  have q := SR_j (RW_S h) n hn.1 hn.2
  have cl := (RW_G h).2.1 (5 + n) (by omega) (by omega)
  have e0 : fX6_foldOf Mx n = G 0 (15 + n) := by unfold fX6_foldOf; rw [ofN_e hn.1 hn.2, m0]; exact q.2.1
  have e1 : ∀ c : Int, fX6_foldOf (fX3_add Mx c) n = G 0 (15 + n) := fun c => by unfold fX6_foldOf; rw [ofN_e hn.1 hn.2, add_o rfl rfl, m0]; exact q.2.1
  have e2 : ∀ c : Int, fX6_stainsOf (fX3_add Mx c) n = G 0 (35 + n) := fun c => by unfold fX6_stainsOf; rw [ofN_e hn.1 hn.2, add_o rfl rfl, m0]; exact q.2.2.2.1
  have e3 : ∀ c d : Int, fX6_stainsOf (fX3_addDigit (fX3_add Mx c) d) n = G 0 (35 + n) := fun c d => by unfold fX6_stainsOf fX3_addDigit; rw [ofN_e hn.1 hn.2, add_o rfl rfl, add_o rfl rfl, m0]; exact q.2.2.2.1
  have e4 : ∀ c : Int, fX6_colourOf (fX3_add Mx c) n = G 0 (5 + n) := fun c => by unfold fX6_colourOf; rw [ofN_e hn.1 hn.2, add_o rfl rfl, m0, Int.zero_add]; exact q.1
  have w1 : ∀ c z : Int, fX9_writes Bx c 0 z = G 0 z := fun c z => by rw [wri_o rfl rfl, b0]
  have w2 : ∀ c d z : Int, fX9_writes (fX9_writes Bx c) d 0 z = G 0 z := fun c d z => by rw [wri_o rfl rfl, wri_o rfl rfl, b0]
  rw [e0, e1]
  unfold fX9_tellsOne
  rw [b0]
  by_cases h4 : G 0 (15 + n) = 4
  · rw [if_pos h4, if_pos h4, h4, e2, w1]
    obtain ⟨a1, a2⟩ := ln_add hl (by omega) (c := 43) (by decide)
    by_cases hs : G 0 (35 + n) ≤ 0
    · rw [if_pos hs, if_pos hs]
      exact ⟨_, _, rfl, a1, by omega, fun r x y => add_o x y, fun r x y => wri_o x y, rfl⟩
    · obtain ⟨b1, b2⟩ := ln_add a1 (by omega) (c := 63) (by decide)
      rw [if_neg hs, if_neg hs]
      exact ⟨_, _, rfl, b1, by omega, fun r x y => by rw [add_o x y, add_o x y], fun r x y => by rw [wri_o x y, wri_o x y], rfl⟩
  · have key : ∀ L : Int, fX8_letterIn_b (G 0 (15 + n)) = L → 0 ≤ L ∧ L < 65536 → ∃ A B : Mem, (if fX9_writes (fX9_writes Bx L) (48 + fX9_writes Bx L 0 (5 + n)) 0 (35 + n) ≤ 0 then fX9_writes (fX9_writes Bx L) (48 + fX9_writes Bx L 0 (5 + n)) else fX9_writes (fX9_writes (fX9_writes Bx L) (48 + fX9_writes Bx L 0 (5 + n))) 63) = B ∧ RLn A B ∧ B 25 0 ≤ Bx 25 0 + 3 ∧ (∀ r : Nat, Nat.beq r 12 = false → Nat.beq r 13 = false → A r = Mx r) ∧ (∀ r : Nat, Nat.beq r 5 = false → Nat.beq r 25 = false → B r = Bx r) ∧ A = (if (fX6_stainsOf (fX3_addDigit (fX3_add Mx (fX8_letterIn_b (G 0 (15 + n)))) (fX6_colourOf (fX3_add Mx (fX8_letterIn_b (G 0 (15 + n)))) n)) n) ≤ 0 then fX3_addDigit (fX3_add Mx (fX8_letterIn_b (G 0 (15 + n)))) (fX6_colourOf (fX3_add Mx (fX8_letterIn_b (G 0 (15 + n)))) n) else fX3_add (fX3_addDigit (fX3_add Mx (fX8_letterIn_b (G 0 (15 + n)))) (fX6_colourOf (fX3_add Mx (fX8_letterIn_b (G 0 (15 + n)))) n)) 63) := by
      intro L hL hL2
      rw [hL, w2, w1, e3, e4]
      obtain ⟨a1, a2⟩ := ln_add hl (by omega) (c := L) hL2
      obtain ⟨b1, b2⟩ := ln_add a1 (by omega) (c := 48 + G 0 (5 + n)) (by omega)
      by_cases hs : G 0 (35 + n) ≤ 0
      · rw [if_pos hs, if_pos hs]
        exact ⟨_, _, rfl, b1, by omega, fun r x y => (add_o x y).trans (add_o x y), fun r x y => by rw [wri_o x y, wri_o x y], rfl⟩
      · obtain ⟨c1, c2⟩ := ln_add b1 (by omega) (c := 63) (by decide)
        rw [if_neg hs, if_neg hs]
        exact ⟨_, _, rfl, c1, by omega, fun r x y => by rw [add_o x y, add_o x y, add_o x y], fun r x y => by rw [wri_o x y, wri_o x y, wri_o x y], rfl⟩
    rw [if_neg h4, if_neg h4]
    by_cases h1 : G 0 (15 + n) = 1
    · rw [if_pos h1]
      exact key 83 (by rw [h1]; decide) (by decide)
    rw [if_neg h1]
    by_cases h2 : G 0 (15 + n) = 2
    · rw [if_pos h2]
      exact key 70 (by rw [h2]; decide) (by decide)
    rw [if_neg h2]
    have h3 : G 0 (15 + n) = 3 := by omega
    exact key 66 (by rw [h3]; decide) (by decide)
theorem tel_L {C G M M2 : Mem} (h : RelR C G) {t : Int} (ht : 0 ≤ t ∧ t < 3) (hs : HS C G t) : ∀ (k k' : Nat) (Mx Bx : Mem) (i : Int), 0 ≤ i → i ≤ fX9_countOf G t 0 → fX9_countOf G t 0 - i < k → fX9_countOf G t 0 - i < k' → RLn Mx Bx → (Bx 25 0 ≤ 4 * i - 1 ∨ (i = 0 ∧ Bx 25 0 ≤ 0)) → (∀ r : Nat, Nat.beq r 12 = false → Nat.beq r 13 = false → Mx r = C r) → (∀ r : Nat, Nat.beq r 5 = false → Nat.beq r 25 = false → Bx r = G r) → Same (fX8_tell_L1 M t k Mx i) (fX9_tell_L1 M2 t k' Bx i) [1] := by
  have hG := RW_G h.1
  have nn := hs.2.1
  intro k
  induction k with
  | zero => intro k' Mx Bx i _ _ _ _; omega
  | succ k ih =>
    intro k' Mx Bx i h0 h1 h2 h3 hl hb cf gf
    cases k' with
    | zero => omega
    | succ k' =>
      have es : fX4_size Mx = fX9_countOf G t 0 := by unfold fX4_size; rw [cf 7 rfl rfl]; exact hs.1
      have ec : fX9_countOf Bx t 0 = fX9_countOf G t 0 := cnt_of0 (gf 0 rfl rfl) hG ht
      rw [fX8_tell_L1, fX9_tell_L1, es, ec]
      by_cases hc : fX9_countOf G t 0 ≤ i
      · rw [if_pos hc, if_pos hc]
        exact sm_d2 (RelR_line h hl cf gf) hl.2.2.1
      · rw [if_neg hc, if_neg hc]
        have q := hs.2.2 i h0 (by omega)
        have fo : fX9_foldAt G t i = G 0 (15 + fX9_saidAt G t i) := rfl
        have en : ∀ X : Mem, X 1 = C 1 → X 7 = C 7 → fX4_napkinAt X i = fX9_saidAt G t i := fun X x1 x7 => by
          rw [← q.2.1]
          unfold fX4_napkinAt fX4_isNumber
          rw [x1, x7]
        have go : ∀ X Y : Mem, X 0 = C 0 → Y 0 = G 0 → RLn X Y → Y 25 0 ≤ 20 → Y 25 0 + 3 ≤ 4 * (i + 1) - 1 → (∀ r : Nat, Nat.beq r 12 = false → Nat.beq r 13 = false → X r = C r) → (∀ r : Nat, Nat.beq r 5 = false → Nat.beq r 25 = false → Y r = G r) → Same (if (fX6_foldOf (fX3_add X (fX8_letterIn_b (fX6_foldOf X (fX4_napkinAt X i)))) (fX4_napkinAt X i)) = (4) then if (fX6_stainsOf (fX3_add X (fX8_letterIn_b (fX6_foldOf X (fX4_napkinAt X i)))) (fX4_napkinAt X i)) ≤ 0 then fX8_tell_L1 M t k (fX3_add X (fX8_letterIn_b (fX6_foldOf X (fX4_napkinAt X i)))) (i + 1) else fX8_tell_L1 M t k (fX3_add (fX3_add X (fX8_letterIn_b (fX6_foldOf X (fX4_napkinAt X i)))) (63)) (i + 1) else if (fX6_stainsOf (fX3_addDigit (fX3_add X (fX8_letterIn_b (fX6_foldOf X (fX4_napkinAt X i)))) (fX6_colourOf (fX3_add X (fX8_letterIn_b (fX6_foldOf X (fX4_napkinAt X i)))) (fX4_napkinAt X i))) (fX4_napkinAt X i)) ≤ 0 then fX8_tell_L1 M t k (fX3_addDigit (fX3_add X (fX8_letterIn_b (fX6_foldOf X (fX4_napkinAt X i)))) (fX6_colourOf (fX3_add X (fX8_letterIn_b (fX6_foldOf X (fX4_napkinAt X i)))) (fX4_napkinAt X i))) (i + 1) else fX8_tell_L1 M t k (fX3_add (fX3_addDigit (fX3_add X (fX8_letterIn_b (fX6_foldOf X (fX4_napkinAt X i)))) (fX6_colourOf (fX3_add X (fX8_letterIn_b (fX6_foldOf X (fX4_napkinAt X i)))) (fX4_napkinAt X i))) (63)) (i + 1)) (fX9_tell_L1 M2 t k' (fX9_tellsOne Y (fX9_saidAt G t i)) (i + 1)) [1] := by
          intro X Y x0 y0 xl yb yb2 xf yf
          rw [en X (xf 1 rfl rfl) (xf 7 rfl rfl)]
          obtain ⟨A, B, b1, b2, b3, b4, b5, b6⟩ := tel_1 h.1 (n := fX9_saidAt G t i) ⟨q.2.2.2.2.2.1, by omega⟩ (by rw [← fo]; exact q.2.2.2.2.1) xl yb x0 y0
          have r := ih k' A B (i + 1) (by omega) (by omega) (by omega) (by omega) b2 (Or.inl (by omega)) (fun r x y => by rw [b4 r x y, xf r x y]) (fun r x y => by rw [b5 r x y, yf r x y])
          rw [b1]
          rw [b6] at r
          split
          · rename_i c1
            rw [if_pos c1] at r
            split
            · rename_i c2
              rw [if_pos c2] at r
              exact r
            · rename_i c2
              rw [if_neg c2] at r
              exact r
          · rename_i c1
            rw [if_neg c1] at r
            split
            · rename_i c2
              rw [if_pos c2] at r
              exact r
            · rename_i c2
              rw [if_neg c2] at r
              exact r
        by_cases hz : i ≤ 0
        · rw [if_pos hz, if_pos hz, sai_of0 (gf 0 rfl rfl) hG ht h0]
          exact go Mx Bx (cf 0 rfl rfl) (gf 0 rfl rfl) hl (by omega) (by omega) cf gf
        · rw [if_neg hz, if_neg hz]
          obtain ⟨a1, a2⟩ := ln_add hl (by omega) (c := 32) (by decide)
          have yf : ∀ r : Nat, Nat.beq r 5 = false → Nat.beq r 25 = false → fX9_writes Bx 32 r = G r := fun r x y => by rw [wri_o x y, gf r x y]
          have xf : ∀ r : Nat, Nat.beq r 12 = false → Nat.beq r 13 = false → fX3_add Mx 32 r = C r := fun r x y => by rw [add_o x y, cf r x y]
          rw [sai_of0 (yf 0 rfl rfl) hG ht h0, show fX4_napkinAt Mx i = fX4_napkinAt (fX3_add Mx 32) i from by rw [en Mx (cf 1 rfl rfl) (cf 7 rfl rfl), en (fX3_add Mx 32) (xf 1 rfl rfl) (xf 7 rfl rfl)]]
          exact go (fX3_add Mx 32) (fX9_writes Bx 32) (xf 0 rfl rfl) (yf 0 rfl rfl) a1 (by omega) (by omega) xf yf
theorem s_tell {C G : Mem} (h : RelR C G) (t : Int) : Same (fX8_tell C t) (fX9_tell G t) [1] := by
  unfold fX8_tell fX9_tell
  by_cases hc : fX9_isTable t = 0
  · rw [ck_0 C hc, if_neg (by decide), if_pos hc]
    exact sm_f1 h (by decide)
  · have ht := tabI t hc
    rw [(ck_1 C hc).1, if_pos rfl, if_neg hc]
    have h1 : RelR (fX3_empty C) (msf G 25 0) := RelR_line h (ln_0 h.2.2.2.2.2.1) (fun r x y => fr_fX3_empty y) (fun r x y => msf_o y)
    have h2 := RelR_heard h1 t
    have hs := heard_S h1 ht
    exact tel_L h2 ht hs 8 7 _ _ 0 (by decide) hs.2.1.1 (by have := hs.2.1; omega) (by have := hs.2.1; omega) h2.2.2.2.2.2.1 (Or.inr ⟨rfl, (show (0 : Int) ≤ 0 by decide)⟩) (fun r x y => rfl) (fun r x y => rfl)
