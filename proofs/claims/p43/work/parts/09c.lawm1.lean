/-! THE LAW'S METHODS over one object of the class: act, put, cause, runs, faults, isLine (written by mk09c.py). -/
abbrev r19 : List Nat := [0, 1, 2, 3, 4, 5, 6, 7, 8, 9, 10, 11, 12, 13, 14, 15, 16, 17, 18]
section
variable {p : Program} {l : Launch} {e : Env} {R : Room} {s : State} {m : MethodId} {args : Array Value} {below : List Frame} {meth : Method} {c : Code} {H : Heap} {locs : List Loc} {cells slots : Nat} {Q : State → Prop}
variable {cc : ByteArray} {pc : Nat} {ls : Array Slot} {rest : List Value}
variable {D : va_G} {A : Nat → Prop} {E : Nat → Nat} {cI cC : ClassId} {T : Nat → Nat} {Z : State → Prop}
/-- a call of the class where its object alone is the world -/
theorem l1_VX {y : MethodName} {bytes : ByteArray} {maxL nL nA index fr lo n : Nat} {ret : Option FieldType} {wsy Ts : List Cond} {own : String} {As stk : List Value} {M M' : Mem} {k : Int} {ov : Option Value}
    (S0 : CallFix p m c cc nL s args Ts own) (hM : Cx l y wsy fr lo n (.ref (E 0) :: As) D (TY cI cC) (VC E cI cC) Z M k ov M') (cw : CallW R s args own RX8 index y bytes maxL ret wsy (zRmx fr lo n) n (6 * n) nA) (hZb : ZBl Z) (hZ : ∀ U : State, U.heap = H → s.WarmedH U.vm → Z U) (hK : va_K D vwCl (TY cI cC) s) (hP : va_P D vwCl (VC E cI cC M) H) (hD : va_D A (VC E cI cC M)) (hS : va_S A s.heap H locs)
    (hn : As.length = nA) (hsize : ls.size = nL) (hst : stk = As.reverse ++ .ref (E 0) :: rest) (hcat : (rest.map fun v => v.category).sum ≤ 8) (hdg : decode cc pc = .ok (.invokevirtual index, 3)) (hf : cells + n ≤ R.cells ∧ slots + 6 * n ≤ R.slots)
    (kn : k = 0 → ∀ (H1 : Heap) (locs1 : List Loc), va_P D vwCl (VC E cI cC M') H1 → va_D A (VC E cI cC M') → va_S A s.heap H1 locs1 → W p l e R s m args below meth c H1 locs1 (cells + n) (slots + 6 * n) Q (F0 m (pc + 3) ls (ov.toList ++ rest)))
    (kx : ¬ k = 0 → ∀ (H1 : Heap) (locs1 : List Loc) (q : Addr) (ce : Cell), va_P D vwCl (VC E cI cC M') H1 → va_D A (VC E cI cC M') → va_S A s.heap H1 locs1 → H1[q]? = some ce → ce.vm = .none → s.vm.findClass (exN k) = some ce.cls → vx_W p l e R s m args below meth c H1 locs1 (cells + n) (slots + 6 * n) Q (F0 m pc ls rest) q) : W p l e R s m args below meth c H locs cells slots Q (F0 m pc ls stk) :=
  lx_VX (wr := []) (w2 := VC E cI cC M') (ci := 8) (q0 := 0) r19 [] r19 S0 hM cw hZb hZ hK hP hD hS rfl rfl VC_0 rfl rfl rfl (fun i h => absurd h List.not_mem_nil) rfl rfl hn hsize hst hcat hdg hf kn kx
theorem l1_Z {V : Mem → va_W} {M0 : Mem} (hZo : ZOk (V M0) Z) (hS : va_S (wA (V M0)) s.heap H locs) (hZ : Z s) : ∀ U : State, U.heap = H → s.WarmedH U.vm → Z U := fun U hU hW => hZo s U hW (by rw [hU]; exact hS.1) (fun q h1 h2 => by rw [hU]; exact hS.2.1 q h1 h2) hZ
end
theorem exN_1 : exN 1 = "java/lang/IndexOutOfBoundsException" := by decide +kernel
theorem exN_2 : exN 2 = "java/lang/IllegalArgumentException" := by decide +kernel
theorem exN_3 : exN 3 = "java/lang/UnsupportedOperationException" := by decide +kernel
theorem exN_4 : exN 4 = "java/util/NoSuchElementException" := by decide +kernel
theorem exN_5 : exN 5 = "java/lang/IllegalStateException" := by decide +kernel
theorem iI_0 : (0 : Int32) = iI 0 := by decide +kernel
theorem iI_1 : (1 : Int32) = iI 1 := by decide +kernel
def fL_ans (x : Int × Int × Mem) : Int × Mem := if x.1 = 0 then (x.2.1, x.2.2) else if x.1 = 3 then (-2, x.2.2) else (-3, x.2.2)
def fL_act (M : Mem) (w a b d : Int) : Int × Mem := if w = 0 then fL_ans (fX8_napkin M a) else if w = 1 then fL_ans (fX8_fold M a b) else if w = 2 then fL_ans (fX8_unfold M a) else if w = 3 then fL_ans (fX8_lay M a b) else if w = 4 then fL_ans (fX8_take M a) else if w = 5 then fL_ans (fX8_move M a b d) else if w = 6 then fL_ans (fX8_stain M a b) else if w = 7 then fL_ans (fX8_wash M a) else fL_ans (fX8_host M a)
theorem ans_0 (r : Int) (M : Mem) : fL_ans (0, r, M) = (r, M) := by simp [fL_ans]
theorem ans_x1 (r : Int) (M : Mem) : fL_ans (1, r, M) = (-3, M) := by simp [fL_ans]
theorem ans_x2 (r : Int) (M : Mem) : fL_ans (2, r, M) = (-3, M) := by simp [fL_ans]
theorem ans_x3 (r : Int) (M : Mem) : fL_ans (3, r, M) = (-2, M) := by simp [fL_ans]
theorem change_k (M : Mem) (co a b d : Int) : (fX8_change M co a b d).1 = 0 ∨ (fX8_change M co a b d).1 = 1 ∨ (fX8_change M co a b d).1 = 2 ∨ (fX8_change M co a b d).1 = 3 := by
  unfold fX8_change
  split
  · exact Or.inr (Or.inl rfl)
  split
  · exact Or.inr (Or.inr (Or.inl rfl))
  split
  · exact Or.inl rfl
  · exact Or.inr (Or.inr (Or.inr rfl))
theorem exN_6 : exN 6 = "java/lang/ArithmeticException" := by decide +kernel
theorem napkin_k (M : Mem) (a : Int) : (fX8_napkin M a).1 = 0 ∨ (fX8_napkin M a).1 = 1 ∨ (fX8_napkin M a).1 = 2 ∨ (fX8_napkin M a).1 = 3 := by
  have h := change_k M 0 a 0 0
  unfold fX8_napkin
  split
  · exact Or.inl rfl
  · exact h
theorem fold_k (M : Mem) (a b : Int) : (fX8_fold M a b).1 = 0 ∨ (fX8_fold M a b).1 = 1 ∨ (fX8_fold M a b).1 = 2 ∨ (fX8_fold M a b).1 = 3 := by
  have h := change_k M 1 a b 0
  unfold fX8_fold
  split
  · exact Or.inl rfl
  · exact h
theorem unfold_k (M : Mem) (a : Int) : (fX8_unfold M a).1 = 0 ∨ (fX8_unfold M a).1 = 1 ∨ (fX8_unfold M a).1 = 2 ∨ (fX8_unfold M a).1 = 3 := by
  have h := change_k M 2 a 0 0
  unfold fX8_unfold
  split
  · exact Or.inl rfl
  · exact h
theorem lay_k (M : Mem) (a b : Int) : (fX8_lay M a b).1 = 0 ∨ (fX8_lay M a b).1 = 1 ∨ (fX8_lay M a b).1 = 2 ∨ (fX8_lay M a b).1 = 3 := by
  have h := change_k M 6 a b 0
  unfold fX8_lay
  split
  · exact Or.inl rfl
  · exact h
theorem take_k (M : Mem) (a : Int) : (fX8_take M a).1 = 0 ∨ (fX8_take M a).1 = 1 ∨ (fX8_take M a).1 = 2 ∨ (fX8_take M a).1 = 3 := by
  have h := change_k M 3 a 0 0
  unfold fX8_take
  split
  · exact Or.inl rfl
  · exact h
theorem move_k (M : Mem) (a b d : Int) : (fX8_move M a b d).1 = 0 ∨ (fX8_move M a b d).1 = 1 ∨ (fX8_move M a b d).1 = 2 ∨ (fX8_move M a b d).1 = 3 := by
  have h := change_k M 7 a b d
  unfold fX8_move
  split
  · exact Or.inl rfl
  · exact h
theorem stain_k (M : Mem) (a b : Int) : (fX8_stain M a b).1 = 0 ∨ (fX8_stain M a b).1 = 1 ∨ (fX8_stain M a b).1 = 2 ∨ (fX8_stain M a b).1 = 3 := by
  have h := change_k M 8 a b 0
  unfold fX8_stain
  split
  · exact Or.inl rfl
  · exact h
theorem wash_k (M : Mem) (a : Int) : (fX8_wash M a).1 = 0 ∨ (fX8_wash M a).1 = 1 ∨ (fX8_wash M a).1 = 2 ∨ (fX8_wash M a).1 = 3 := by
  have h := change_k M 4 a 0 0
  unfold fX8_wash
  split
  · exact Or.inl rfl
  · exact h
theorem host_k (M : Mem) (a : Int) : (fX8_host M a).1 = 0 ∨ (fX8_host M a).1 = 1 ∨ (fX8_host M a).1 = 2 ∨ (fX8_host M a).1 = 3 := by
  have h := change_k M 5 a 0 0
  unfold fX8_host
  split
  · exact Or.inl rfl
  · exact h
theorem cl_act_72 : Cond.classLink RL 72 "java/lang/UnsupportedOperationException" ∈ wsL_act := by decide +kernel
set_option maxRecDepth 100000 in
set_option maxHeartbeats 4000000 in
theorem kL_act_0 (l : Launch) (hst : l.stackTraces = false) (D : va_G) (E : Nat → Nat) (cI cC : ClassId) (T : Nat → Nat) (M : Mem) (a b d : Int) (pa : I32 a) (hC : CI M) (hQ : SI M) (hH : HN M) : Cn l yL_act wsL_act 20 400 1 [.ref (E 0), .int (iI 0), .int (iI a), .int (iI b), .int (iI d)] D (TY cI cC) (VC E cI cC) (ZL E cI cC T) M (some (.int (iI (fL_ans (fX8_napkin M a)).1))) (fL_ans (fX8_napkin M a)).2 := by
  obtain ⟨kx, r, M', hE⟩ : ∃ kx r M', fX8_napkin M a = (kx, r, M') := ⟨_, _, _, rfl⟩
  rw [hE]
  refine Cn.ofW (cc := cL_act) (maxL := 6) (ret := (some .int)) (hh := [(0, 53, 108, 72), (54, 60, 108, 72), (61, 66, 108, 72), (67, 73, 108, 72), (74, 79, 108, 72), (80, 88, 108, 72), (89, 95, 108, 72), (96, 101, 108, 72), (102, 107, 108, 72), (0, 53, 113, 74), (54, 60, 113, 74), (61, 66, 113, 74), (67, 73, 113, 74), (74, 79, 113, 74), (80, 88, 113, 74), (89, 95, 113, 74), (96, 101, 113, 74), (102, 107, 113, 74), (0, 53, 118, 76), (54, 60, 118, 76), (61, 66, 118, 76), (67, 73, 118, 76), (74, 79, 118, 76), (80, 88, 118, 76), (89, 95, 118, 76), (96, 101, 118, 76), (102, 107, 118, 76)]) (by decide +kernel) rfl (Nat.le_of_ble_eq_true rfl) ?_
  intro p e s m args below meth c ls hx hb hml hr hown hts hlocks hP hK hD hZ hS htab hl
  have hl : lv_has ls 6 [(0, .ref (E 0)), (1, .int (iI 0)), (2, .int (iI a)), (3, .int (iI b)), (4, .int (iI d))] := hl
  have S0 : CallFix p m c cL_act 6 s args wsL_act RL := ⟨hx, hb, hml, hown, hts⟩
  refine lv_iload_n hx hb dL_act_0 rfl (lv_at hl 1 rfl) ?_
  refine z_table (k0 := 0) (tgt := 48) hx hb dL_act_1 (by decide) rfl (by decide) (by decide) rfl (by decide) ?_
  refine lv_aload_n hx hb dL_act_48 rfl (lv_at hl 0 rfl) ?_
  refine lv_iload_n hx hb dL_act_49 rfl (lv_at hl 2 rfl) ?_
  refine l1_VX (rest := []) (As := [.int (iI a)]) S0 (kX8_napkin l hst D E cI cC T M a pa hC hQ hH kx r M' hE) (cwV 1 hts gL_act_X8_napkin rfl rfl rfl (by decide +kernel) ⟨(Nat.le_of_ble_eq_true rfl), (Nat.le_of_ble_eq_true rfl)⟩) (ZC_bl E cI cC T) (l1_Z (ZC_ok E cI cC T M) hS hZ.1) hK hP hD hS rfl hl.1 rfl (Nat.le_of_ble_eq_true rfl) dL_act_50 ⟨by decide, by decide⟩ (fun hk H locs hP hD hS => ?_) (fun hk H locs q ce hP hD hS hce hcv hcl => ?_)
  · rw [hk, ans_0]
    exact cn_i hx hb hr hlocks rfl rfl hS hP (by decide) (by decide) dL_act_53
  · have hk9 := napkin_k M a
    rw [hE] at hk9
    rcases hk9 with hk9 | hk9 | hk9 | hk9
    · exact absurd hk9 hk
    · have hk3 : kx = 1 := hk9
      rw [hk3, exN_1] at hcl
      refine vx_catch (own := RL) (name := "java/lang/IndexOutOfBoundsException") (E := "java/lang/IndexOutOfBoundsException") hown [⟨0, 53, 108, 72⟩, ⟨54, 60, 108, 72⟩, ⟨61, 66, 108, 72⟩, ⟨67, 73, 108, 72⟩, ⟨74, 79, 108, 72⟩, ⟨80, 88, 108, 72⟩, ⟨89, 95, 108, 72⟩, ⟨96, 101, 108, 72⟩, ⟨102, 107, 108, 72⟩, ⟨0, 53, 113, 74⟩, ⟨54, 60, 113, 74⟩, ⟨61, 66, 113, 74⟩, ⟨67, 73, 113, 74⟩, ⟨74, 79, 113, 74⟩, ⟨80, 88, 113, 74⟩, ⟨89, 95, 113, 74⟩, ⟨96, 101, 113, 74⟩, ⟨102, 107, 113, 74⟩] ⟨0, 53, 118, 76⟩ [⟨54, 60, 118, 76⟩, ⟨61, 66, 118, 76⟩, ⟨67, 73, 118, 76⟩, ⟨74, 79, 118, 76⟩, ⟨80, 88, 118, 76⟩, ⟨89, 95, 118, 76⟩, ⟨96, 101, 118, 76⟩, ⟨102, 107, 118, 76⟩] htab (fun z hz => (List.mem_cons.mp hz).elim (fun h => by subst h; exact Or.inr ⟨by decide, _, (hts (.classLink RL 72 "java/lang/UnsupportedOperationException") cl_act_72), hZ.2.2.1⟩) (fun hz => (List.mem_cons.mp hz).elim (fun h => by subst h; exact Or.inl (by decide)) (fun hz => (List.mem_cons.mp hz).elim (fun h => by subst h; exact Or.inl (by decide)) (fun hz => (List.mem_cons.mp hz).elim (fun h => by subst h; exact Or.inl (by decide)) (fun hz => (List.mem_cons.mp hz).elim (fun h => by subst h; exact Or.inl (by decide)) (fun hz => (List.mem_cons.mp hz).elim (fun h => by subst h; exact Or.inl (by decide)) (fun hz => (List.mem_cons.mp hz).elim (fun h => by subst h; exact Or.inl (by decide)) (fun hz => (List.mem_cons.mp hz).elim (fun h => by subst h; exact Or.inl (by decide)) (fun hz => (List.mem_cons.mp hz).elim (fun h => by subst h; exact Or.inl (by decide)) (fun hz => (List.mem_cons.mp hz).elim (fun h => by subst h; exact Or.inr ⟨by decide, _, (va_Nw.use rfl hZ.2.2.2.2.2.1), hZ.2.2.2.1⟩) (fun hz => (List.mem_cons.mp hz).elim (fun h => by subst h; exact Or.inl (by decide)) (fun hz => (List.mem_cons.mp hz).elim (fun h => by subst h; exact Or.inl (by decide)) (fun hz => (List.mem_cons.mp hz).elim (fun h => by subst h; exact Or.inl (by decide)) (fun hz => (List.mem_cons.mp hz).elim (fun h => by subst h; exact Or.inl (by decide)) (fun hz => (List.mem_cons.mp hz).elim (fun h => by subst h; exact Or.inl (by decide)) (fun hz => (List.mem_cons.mp hz).elim (fun h => by subst h; exact Or.inl (by decide)) (fun hz => (List.mem_cons.mp hz).elim (fun h => by subst h; exact Or.inl (by decide)) (fun hz => (List.mem_cons.mp hz).elim (fun h => by subst h; exact Or.inl (by decide)) (fun hz => absurd hz List.not_mem_nil))))))))))))))))))) (by decide) (by decide) (va_Nw.use rfl hZ.2.2.2.2.2.2.1) (va_Nw.use rfl (ZC_x1 hZ.1)) hce hcv hcl ?_
      refine lv_astore (lv' := [(5, .ref q), (0, .ref (E 0)), (1, .int (iI 0)), (2, .int (iI a)), (3, .int (iI b)), (4, .int (iI d))]) hx hb dL_act_118 hl (by decide) rfl (fun ls hl => ?_)
      refine z_bipush hx hb dL_act_120 (by decide +kernel) ?_
      rw [hk3, ans_x1]
      exact cn_i hx hb hr hlocks rfl rfl hS hP (by decide) (by decide) dL_act_122
    · have hk3 : kx = 2 := hk9
      rw [hk3, exN_2] at hcl
      refine vx_catch (own := RL) (name := "java/lang/IllegalArgumentException") (E := "java/lang/IllegalArgumentException") hown [⟨0, 53, 108, 72⟩, ⟨54, 60, 108, 72⟩, ⟨61, 66, 108, 72⟩, ⟨67, 73, 108, 72⟩, ⟨74, 79, 108, 72⟩, ⟨80, 88, 108, 72⟩, ⟨89, 95, 108, 72⟩, ⟨96, 101, 108, 72⟩, ⟨102, 107, 108, 72⟩] ⟨0, 53, 113, 74⟩ [⟨54, 60, 113, 74⟩, ⟨61, 66, 113, 74⟩, ⟨67, 73, 113, 74⟩, ⟨74, 79, 113, 74⟩, ⟨80, 88, 113, 74⟩, ⟨89, 95, 113, 74⟩, ⟨96, 101, 113, 74⟩, ⟨102, 107, 113, 74⟩, ⟨0, 53, 118, 76⟩, ⟨54, 60, 118, 76⟩, ⟨61, 66, 118, 76⟩, ⟨67, 73, 118, 76⟩, ⟨74, 79, 118, 76⟩, ⟨80, 88, 118, 76⟩, ⟨89, 95, 118, 76⟩, ⟨96, 101, 118, 76⟩, ⟨102, 107, 118, 76⟩] htab (fun z hz => (List.mem_cons.mp hz).elim (fun h => by subst h; exact Or.inr ⟨by decide, _, (hts (.classLink RL 72 "java/lang/UnsupportedOperationException") cl_act_72), hZ.2.1⟩) (fun hz => (List.mem_cons.mp hz).elim (fun h => by subst h; exact Or.inl (by decide)) (fun hz => (List.mem_cons.mp hz).elim (fun h => by subst h; exact Or.inl (by decide)) (fun hz => (List.mem_cons.mp hz).elim (fun h => by subst h; exact Or.inl (by decide)) (fun hz => (List.mem_cons.mp hz).elim (fun h => by subst h; exact Or.inl (by decide)) (fun hz => (List.mem_cons.mp hz).elim (fun h => by subst h; exact Or.inl (by decide)) (fun hz => (List.mem_cons.mp hz).elim (fun h => by subst h; exact Or.inl (by decide)) (fun hz => (List.mem_cons.mp hz).elim (fun h => by subst h; exact Or.inl (by decide)) (fun hz => (List.mem_cons.mp hz).elim (fun h => by subst h; exact Or.inl (by decide)) (fun hz => absurd hz List.not_mem_nil)))))))))) (by decide) (by decide) (va_Nw.use rfl hZ.2.2.2.2.2.1) (va_Nw.use rfl (ZC_x2 hZ.1)) hce hcv hcl ?_
      refine lv_astore (lv' := [(5, .ref q), (0, .ref (E 0)), (1, .int (iI 0)), (2, .int (iI a)), (3, .int (iI b)), (4, .int (iI d))]) hx hb dL_act_113 hl (by decide) rfl (fun ls hl => ?_)
      refine z_bipush hx hb dL_act_115 (by decide +kernel) ?_
      rw [hk3, ans_x2]
      exact cn_i hx hb hr hlocks rfl rfl hS hP (by decide) (by decide) dL_act_117
    · have hk3 : kx = 3 := hk9
      rw [hk3, exN_3] at hcl
      refine vx_catch (own := RL) (name := "java/lang/UnsupportedOperationException") (E := "java/lang/UnsupportedOperationException") hown [] ⟨0, 53, 108, 72⟩ [⟨54, 60, 108, 72⟩, ⟨61, 66, 108, 72⟩, ⟨67, 73, 108, 72⟩, ⟨74, 79, 108, 72⟩, ⟨80, 88, 108, 72⟩, ⟨89, 95, 108, 72⟩, ⟨96, 101, 108, 72⟩, ⟨102, 107, 108, 72⟩, ⟨0, 53, 113, 74⟩, ⟨54, 60, 113, 74⟩, ⟨61, 66, 113, 74⟩, ⟨67, 73, 113, 74⟩, ⟨74, 79, 113, 74⟩, ⟨80, 88, 113, 74⟩, ⟨89, 95, 113, 74⟩, ⟨96, 101, 113, 74⟩, ⟨102, 107, 113, 74⟩, ⟨0, 53, 118, 76⟩, ⟨54, 60, 118, 76⟩, ⟨61, 66, 118, 76⟩, ⟨67, 73, 118, 76⟩, ⟨74, 79, 118, 76⟩, ⟨80, 88, 118, 76⟩, ⟨89, 95, 118, 76⟩, ⟨96, 101, 118, 76⟩, ⟨102, 107, 118, 76⟩] htab (fun z hz => absurd hz List.not_mem_nil) (by decide) (by decide) (hts (.classLink RL 72 "java/lang/UnsupportedOperationException") cl_act_72) (va_Nw.use rfl (ZC_x3 hZ.1)) hce hcv hcl ?_
      refine lv_astore (lv' := [(5, .ref q), (0, .ref (E 0)), (1, .int (iI 0)), (2, .int (iI a)), (3, .int (iI b)), (4, .int (iI d))]) hx hb dL_act_108 hl (by decide) rfl (fun ls hl => ?_)
      refine z_bipush hx hb dL_act_110 (by decide +kernel) ?_
      rw [hk3, ans_x3]
      exact cn_i hx hb hr hlocks rfl rfl hS hP (by decide) (by decide) dL_act_112
set_option maxRecDepth 100000 in
set_option maxHeartbeats 4000000 in
theorem kL_act_1 (l : Launch) (hst : l.stackTraces = false) (D : va_G) (E : Nat → Nat) (cI cC : ClassId) (T : Nat → Nat) (M : Mem) (a b d : Int) (pa : I32 a) (pb : I32 b) (hC : CI M) (hQ : SI M) (hH : HN M) : Cn l yL_act wsL_act 20 400 1 [.ref (E 0), .int (iI 1), .int (iI a), .int (iI b), .int (iI d)] D (TY cI cC) (VC E cI cC) (ZL E cI cC T) M (some (.int (iI (fL_ans (fX8_fold M a b)).1))) (fL_ans (fX8_fold M a b)).2 := by
  obtain ⟨kx, r, M', hE⟩ : ∃ kx r M', fX8_fold M a b = (kx, r, M') := ⟨_, _, _, rfl⟩
  rw [hE]
  refine Cn.ofW (cc := cL_act) (maxL := 6) (ret := (some .int)) (hh := [(0, 53, 108, 72), (54, 60, 108, 72), (61, 66, 108, 72), (67, 73, 108, 72), (74, 79, 108, 72), (80, 88, 108, 72), (89, 95, 108, 72), (96, 101, 108, 72), (102, 107, 108, 72), (0, 53, 113, 74), (54, 60, 113, 74), (61, 66, 113, 74), (67, 73, 113, 74), (74, 79, 113, 74), (80, 88, 113, 74), (89, 95, 113, 74), (96, 101, 113, 74), (102, 107, 113, 74), (0, 53, 118, 76), (54, 60, 118, 76), (61, 66, 118, 76), (67, 73, 118, 76), (74, 79, 118, 76), (80, 88, 118, 76), (89, 95, 118, 76), (96, 101, 118, 76), (102, 107, 118, 76)]) (by decide +kernel) rfl (Nat.le_of_ble_eq_true rfl) ?_
  intro p e s m args below meth c ls hx hb hml hr hown hts hlocks hP hK hD hZ hS htab hl
  have hl : lv_has ls 6 [(0, .ref (E 0)), (1, .int (iI 1)), (2, .int (iI a)), (3, .int (iI b)), (4, .int (iI d))] := hl
  have S0 : CallFix p m c cL_act 6 s args wsL_act RL := ⟨hx, hb, hml, hown, hts⟩
  refine lv_iload_n hx hb dL_act_0 rfl (lv_at hl 1 rfl) ?_
  refine z_table (k0 := 1) (tgt := 54) hx hb dL_act_1 (by decide) rfl (by decide) (by decide) rfl (by decide) ?_
  refine lv_aload_n hx hb dL_act_54 rfl (lv_at hl 0 rfl) ?_
  refine lv_iload_n hx hb dL_act_55 rfl (lv_at hl 2 rfl) ?_
  refine lv_iload_n hx hb dL_act_56 rfl (lv_at hl 3 rfl) ?_
  refine l1_VX (rest := []) (As := [.int (iI a), .int (iI b)]) S0 (kX8_fold l hst D E cI cC T M a b pa pb hC hQ hH kx r M' hE) (cwV 2 hts gL_act_X8_fold rfl rfl rfl (by decide +kernel) ⟨(Nat.le_of_ble_eq_true rfl), (Nat.le_of_ble_eq_true rfl)⟩) (ZC_bl E cI cC T) (l1_Z (ZC_ok E cI cC T M) hS hZ.1) hK hP hD hS rfl hl.1 rfl (Nat.le_of_ble_eq_true rfl) dL_act_57 ⟨by decide, by decide⟩ (fun hk H locs hP hD hS => ?_) (fun hk H locs q ce hP hD hS hce hcv hcl => ?_)
  · rw [hk, ans_0]
    exact cn_i hx hb hr hlocks rfl rfl hS hP (by decide) (by decide) dL_act_60
  · have hk9 := fold_k M a b
    rw [hE] at hk9
    rcases hk9 with hk9 | hk9 | hk9 | hk9
    · exact absurd hk9 hk
    · have hk3 : kx = 1 := hk9
      rw [hk3, exN_1] at hcl
      refine vx_catch (own := RL) (name := "java/lang/IndexOutOfBoundsException") (E := "java/lang/IndexOutOfBoundsException") hown [⟨0, 53, 108, 72⟩, ⟨54, 60, 108, 72⟩, ⟨61, 66, 108, 72⟩, ⟨67, 73, 108, 72⟩, ⟨74, 79, 108, 72⟩, ⟨80, 88, 108, 72⟩, ⟨89, 95, 108, 72⟩, ⟨96, 101, 108, 72⟩, ⟨102, 107, 108, 72⟩, ⟨0, 53, 113, 74⟩, ⟨54, 60, 113, 74⟩, ⟨61, 66, 113, 74⟩, ⟨67, 73, 113, 74⟩, ⟨74, 79, 113, 74⟩, ⟨80, 88, 113, 74⟩, ⟨89, 95, 113, 74⟩, ⟨96, 101, 113, 74⟩, ⟨102, 107, 113, 74⟩, ⟨0, 53, 118, 76⟩] ⟨54, 60, 118, 76⟩ [⟨61, 66, 118, 76⟩, ⟨67, 73, 118, 76⟩, ⟨74, 79, 118, 76⟩, ⟨80, 88, 118, 76⟩, ⟨89, 95, 118, 76⟩, ⟨96, 101, 118, 76⟩, ⟨102, 107, 118, 76⟩] htab (fun z hz => (List.mem_cons.mp hz).elim (fun h => by subst h; exact Or.inl (by decide)) (fun hz => (List.mem_cons.mp hz).elim (fun h => by subst h; exact Or.inr ⟨by decide, _, (hts (.classLink RL 72 "java/lang/UnsupportedOperationException") cl_act_72), hZ.2.2.1⟩) (fun hz => (List.mem_cons.mp hz).elim (fun h => by subst h; exact Or.inl (by decide)) (fun hz => (List.mem_cons.mp hz).elim (fun h => by subst h; exact Or.inl (by decide)) (fun hz => (List.mem_cons.mp hz).elim (fun h => by subst h; exact Or.inl (by decide)) (fun hz => (List.mem_cons.mp hz).elim (fun h => by subst h; exact Or.inl (by decide)) (fun hz => (List.mem_cons.mp hz).elim (fun h => by subst h; exact Or.inl (by decide)) (fun hz => (List.mem_cons.mp hz).elim (fun h => by subst h; exact Or.inl (by decide)) (fun hz => (List.mem_cons.mp hz).elim (fun h => by subst h; exact Or.inl (by decide)) (fun hz => (List.mem_cons.mp hz).elim (fun h => by subst h; exact Or.inl (by decide)) (fun hz => (List.mem_cons.mp hz).elim (fun h => by subst h; exact Or.inr ⟨by decide, _, (va_Nw.use rfl hZ.2.2.2.2.2.1), hZ.2.2.2.1⟩) (fun hz => (List.mem_cons.mp hz).elim (fun h => by subst h; exact Or.inl (by decide)) (fun hz => (List.mem_cons.mp hz).elim (fun h => by subst h; exact Or.inl (by decide)) (fun hz => (List.mem_cons.mp hz).elim (fun h => by subst h; exact Or.inl (by decide)) (fun hz => (List.mem_cons.mp hz).elim (fun h => by subst h; exact Or.inl (by decide)) (fun hz => (List.mem_cons.mp hz).elim (fun h => by subst h; exact Or.inl (by decide)) (fun hz => (List.mem_cons.mp hz).elim (fun h => by subst h; exact Or.inl (by decide)) (fun hz => (List.mem_cons.mp hz).elim (fun h => by subst h; exact Or.inl (by decide)) (fun hz => (List.mem_cons.mp hz).elim (fun h => by subst h; exact Or.inl (by decide)) (fun hz => absurd hz List.not_mem_nil)))))))))))))))))))) (by decide) (by decide) (va_Nw.use rfl hZ.2.2.2.2.2.2.1) (va_Nw.use rfl (ZC_x1 hZ.1)) hce hcv hcl ?_
      refine lv_astore (lv' := [(5, .ref q), (0, .ref (E 0)), (1, .int (iI 1)), (2, .int (iI a)), (3, .int (iI b)), (4, .int (iI d))]) hx hb dL_act_118 hl (by decide) rfl (fun ls hl => ?_)
      refine z_bipush hx hb dL_act_120 (by decide +kernel) ?_
      rw [hk3, ans_x1]
      exact cn_i hx hb hr hlocks rfl rfl hS hP (by decide) (by decide) dL_act_122
    · have hk3 : kx = 2 := hk9
      rw [hk3, exN_2] at hcl
      refine vx_catch (own := RL) (name := "java/lang/IllegalArgumentException") (E := "java/lang/IllegalArgumentException") hown [⟨0, 53, 108, 72⟩, ⟨54, 60, 108, 72⟩, ⟨61, 66, 108, 72⟩, ⟨67, 73, 108, 72⟩, ⟨74, 79, 108, 72⟩, ⟨80, 88, 108, 72⟩, ⟨89, 95, 108, 72⟩, ⟨96, 101, 108, 72⟩, ⟨102, 107, 108, 72⟩, ⟨0, 53, 113, 74⟩] ⟨54, 60, 113, 74⟩ [⟨61, 66, 113, 74⟩, ⟨67, 73, 113, 74⟩, ⟨74, 79, 113, 74⟩, ⟨80, 88, 113, 74⟩, ⟨89, 95, 113, 74⟩, ⟨96, 101, 113, 74⟩, ⟨102, 107, 113, 74⟩, ⟨0, 53, 118, 76⟩, ⟨54, 60, 118, 76⟩, ⟨61, 66, 118, 76⟩, ⟨67, 73, 118, 76⟩, ⟨74, 79, 118, 76⟩, ⟨80, 88, 118, 76⟩, ⟨89, 95, 118, 76⟩, ⟨96, 101, 118, 76⟩, ⟨102, 107, 118, 76⟩] htab (fun z hz => (List.mem_cons.mp hz).elim (fun h => by subst h; exact Or.inl (by decide)) (fun hz => (List.mem_cons.mp hz).elim (fun h => by subst h; exact Or.inr ⟨by decide, _, (hts (.classLink RL 72 "java/lang/UnsupportedOperationException") cl_act_72), hZ.2.1⟩) (fun hz => (List.mem_cons.mp hz).elim (fun h => by subst h; exact Or.inl (by decide)) (fun hz => (List.mem_cons.mp hz).elim (fun h => by subst h; exact Or.inl (by decide)) (fun hz => (List.mem_cons.mp hz).elim (fun h => by subst h; exact Or.inl (by decide)) (fun hz => (List.mem_cons.mp hz).elim (fun h => by subst h; exact Or.inl (by decide)) (fun hz => (List.mem_cons.mp hz).elim (fun h => by subst h; exact Or.inl (by decide)) (fun hz => (List.mem_cons.mp hz).elim (fun h => by subst h; exact Or.inl (by decide)) (fun hz => (List.mem_cons.mp hz).elim (fun h => by subst h; exact Or.inl (by decide)) (fun hz => (List.mem_cons.mp hz).elim (fun h => by subst h; exact Or.inl (by decide)) (fun hz => absurd hz List.not_mem_nil))))))))))) (by decide) (by decide) (va_Nw.use rfl hZ.2.2.2.2.2.1) (va_Nw.use rfl (ZC_x2 hZ.1)) hce hcv hcl ?_
      refine lv_astore (lv' := [(5, .ref q), (0, .ref (E 0)), (1, .int (iI 1)), (2, .int (iI a)), (3, .int (iI b)), (4, .int (iI d))]) hx hb dL_act_113 hl (by decide) rfl (fun ls hl => ?_)
      refine z_bipush hx hb dL_act_115 (by decide +kernel) ?_
      rw [hk3, ans_x2]
      exact cn_i hx hb hr hlocks rfl rfl hS hP (by decide) (by decide) dL_act_117
    · have hk3 : kx = 3 := hk9
      rw [hk3, exN_3] at hcl
      refine vx_catch (own := RL) (name := "java/lang/UnsupportedOperationException") (E := "java/lang/UnsupportedOperationException") hown [⟨0, 53, 108, 72⟩] ⟨54, 60, 108, 72⟩ [⟨61, 66, 108, 72⟩, ⟨67, 73, 108, 72⟩, ⟨74, 79, 108, 72⟩, ⟨80, 88, 108, 72⟩, ⟨89, 95, 108, 72⟩, ⟨96, 101, 108, 72⟩, ⟨102, 107, 108, 72⟩, ⟨0, 53, 113, 74⟩, ⟨54, 60, 113, 74⟩, ⟨61, 66, 113, 74⟩, ⟨67, 73, 113, 74⟩, ⟨74, 79, 113, 74⟩, ⟨80, 88, 113, 74⟩, ⟨89, 95, 113, 74⟩, ⟨96, 101, 113, 74⟩, ⟨102, 107, 113, 74⟩, ⟨0, 53, 118, 76⟩, ⟨54, 60, 118, 76⟩, ⟨61, 66, 118, 76⟩, ⟨67, 73, 118, 76⟩, ⟨74, 79, 118, 76⟩, ⟨80, 88, 118, 76⟩, ⟨89, 95, 118, 76⟩, ⟨96, 101, 118, 76⟩, ⟨102, 107, 118, 76⟩] htab (fun z hz => (List.mem_cons.mp hz).elim (fun h => by subst h; exact Or.inl (by decide)) (fun hz => absurd hz List.not_mem_nil)) (by decide) (by decide) (hts (.classLink RL 72 "java/lang/UnsupportedOperationException") cl_act_72) (va_Nw.use rfl (ZC_x3 hZ.1)) hce hcv hcl ?_
      refine lv_astore (lv' := [(5, .ref q), (0, .ref (E 0)), (1, .int (iI 1)), (2, .int (iI a)), (3, .int (iI b)), (4, .int (iI d))]) hx hb dL_act_108 hl (by decide) rfl (fun ls hl => ?_)
      refine z_bipush hx hb dL_act_110 (by decide +kernel) ?_
      rw [hk3, ans_x3]
      exact cn_i hx hb hr hlocks rfl rfl hS hP (by decide) (by decide) dL_act_112
set_option maxRecDepth 100000 in
set_option maxHeartbeats 4000000 in
theorem kL_act_2 (l : Launch) (hst : l.stackTraces = false) (D : va_G) (E : Nat → Nat) (cI cC : ClassId) (T : Nat → Nat) (M : Mem) (a b d : Int) (pa : I32 a) (hC : CI M) (hQ : SI M) (hH : HN M) : Cn l yL_act wsL_act 20 400 1 [.ref (E 0), .int (iI 2), .int (iI a), .int (iI b), .int (iI d)] D (TY cI cC) (VC E cI cC) (ZL E cI cC T) M (some (.int (iI (fL_ans (fX8_unfold M a)).1))) (fL_ans (fX8_unfold M a)).2 := by
  obtain ⟨kx, r, M', hE⟩ : ∃ kx r M', fX8_unfold M a = (kx, r, M') := ⟨_, _, _, rfl⟩
  rw [hE]
  refine Cn.ofW (cc := cL_act) (maxL := 6) (ret := (some .int)) (hh := [(0, 53, 108, 72), (54, 60, 108, 72), (61, 66, 108, 72), (67, 73, 108, 72), (74, 79, 108, 72), (80, 88, 108, 72), (89, 95, 108, 72), (96, 101, 108, 72), (102, 107, 108, 72), (0, 53, 113, 74), (54, 60, 113, 74), (61, 66, 113, 74), (67, 73, 113, 74), (74, 79, 113, 74), (80, 88, 113, 74), (89, 95, 113, 74), (96, 101, 113, 74), (102, 107, 113, 74), (0, 53, 118, 76), (54, 60, 118, 76), (61, 66, 118, 76), (67, 73, 118, 76), (74, 79, 118, 76), (80, 88, 118, 76), (89, 95, 118, 76), (96, 101, 118, 76), (102, 107, 118, 76)]) (by decide +kernel) rfl (Nat.le_of_ble_eq_true rfl) ?_
  intro p e s m args below meth c ls hx hb hml hr hown hts hlocks hP hK hD hZ hS htab hl
  have hl : lv_has ls 6 [(0, .ref (E 0)), (1, .int (iI 2)), (2, .int (iI a)), (3, .int (iI b)), (4, .int (iI d))] := hl
  have S0 : CallFix p m c cL_act 6 s args wsL_act RL := ⟨hx, hb, hml, hown, hts⟩
  refine lv_iload_n hx hb dL_act_0 rfl (lv_at hl 1 rfl) ?_
  refine z_table (k0 := 2) (tgt := 61) hx hb dL_act_1 (by decide) rfl (by decide) (by decide) rfl (by decide) ?_
  refine lv_aload_n hx hb dL_act_61 rfl (lv_at hl 0 rfl) ?_
  refine lv_iload_n hx hb dL_act_62 rfl (lv_at hl 2 rfl) ?_
  refine l1_VX (rest := []) (As := [.int (iI a)]) S0 (kX8_unfold l hst D E cI cC T M a pa hC hQ hH kx r M' hE) (cwV 1 hts gL_act_X8_unfold rfl rfl rfl (by decide +kernel) ⟨(Nat.le_of_ble_eq_true rfl), (Nat.le_of_ble_eq_true rfl)⟩) (ZC_bl E cI cC T) (l1_Z (ZC_ok E cI cC T M) hS hZ.1) hK hP hD hS rfl hl.1 rfl (Nat.le_of_ble_eq_true rfl) dL_act_63 ⟨by decide, by decide⟩ (fun hk H locs hP hD hS => ?_) (fun hk H locs q ce hP hD hS hce hcv hcl => ?_)
  · rw [hk, ans_0]
    exact cn_i hx hb hr hlocks rfl rfl hS hP (by decide) (by decide) dL_act_66
  · have hk9 := unfold_k M a
    rw [hE] at hk9
    rcases hk9 with hk9 | hk9 | hk9 | hk9
    · exact absurd hk9 hk
    · have hk3 : kx = 1 := hk9
      rw [hk3, exN_1] at hcl
      refine vx_catch (own := RL) (name := "java/lang/IndexOutOfBoundsException") (E := "java/lang/IndexOutOfBoundsException") hown [⟨0, 53, 108, 72⟩, ⟨54, 60, 108, 72⟩, ⟨61, 66, 108, 72⟩, ⟨67, 73, 108, 72⟩, ⟨74, 79, 108, 72⟩, ⟨80, 88, 108, 72⟩, ⟨89, 95, 108, 72⟩, ⟨96, 101, 108, 72⟩, ⟨102, 107, 108, 72⟩, ⟨0, 53, 113, 74⟩, ⟨54, 60, 113, 74⟩, ⟨61, 66, 113, 74⟩, ⟨67, 73, 113, 74⟩, ⟨74, 79, 113, 74⟩, ⟨80, 88, 113, 74⟩, ⟨89, 95, 113, 74⟩, ⟨96, 101, 113, 74⟩, ⟨102, 107, 113, 74⟩, ⟨0, 53, 118, 76⟩, ⟨54, 60, 118, 76⟩] ⟨61, 66, 118, 76⟩ [⟨67, 73, 118, 76⟩, ⟨74, 79, 118, 76⟩, ⟨80, 88, 118, 76⟩, ⟨89, 95, 118, 76⟩, ⟨96, 101, 118, 76⟩, ⟨102, 107, 118, 76⟩] htab (fun z hz => (List.mem_cons.mp hz).elim (fun h => by subst h; exact Or.inl (by decide)) (fun hz => (List.mem_cons.mp hz).elim (fun h => by subst h; exact Or.inl (by decide)) (fun hz => (List.mem_cons.mp hz).elim (fun h => by subst h; exact Or.inr ⟨by decide, _, (hts (.classLink RL 72 "java/lang/UnsupportedOperationException") cl_act_72), hZ.2.2.1⟩) (fun hz => (List.mem_cons.mp hz).elim (fun h => by subst h; exact Or.inl (by decide)) (fun hz => (List.mem_cons.mp hz).elim (fun h => by subst h; exact Or.inl (by decide)) (fun hz => (List.mem_cons.mp hz).elim (fun h => by subst h; exact Or.inl (by decide)) (fun hz => (List.mem_cons.mp hz).elim (fun h => by subst h; exact Or.inl (by decide)) (fun hz => (List.mem_cons.mp hz).elim (fun h => by subst h; exact Or.inl (by decide)) (fun hz => (List.mem_cons.mp hz).elim (fun h => by subst h; exact Or.inl (by decide)) (fun hz => (List.mem_cons.mp hz).elim (fun h => by subst h; exact Or.inl (by decide)) (fun hz => (List.mem_cons.mp hz).elim (fun h => by subst h; exact Or.inl (by decide)) (fun hz => (List.mem_cons.mp hz).elim (fun h => by subst h; exact Or.inr ⟨by decide, _, (va_Nw.use rfl hZ.2.2.2.2.2.1), hZ.2.2.2.1⟩) (fun hz => (List.mem_cons.mp hz).elim (fun h => by subst h; exact Or.inl (by decide)) (fun hz => (List.mem_cons.mp hz).elim (fun h => by subst h; exact Or.inl (by decide)) (fun hz => (List.mem_cons.mp hz).elim (fun h => by subst h; exact Or.inl (by decide)) (fun hz => (List.mem_cons.mp hz).elim (fun h => by subst h; exact Or.inl (by decide)) (fun hz => (List.mem_cons.mp hz).elim (fun h => by subst h; exact Or.inl (by decide)) (fun hz => (List.mem_cons.mp hz).elim (fun h => by subst h; exact Or.inl (by decide)) (fun hz => (List.mem_cons.mp hz).elim (fun h => by subst h; exact Or.inl (by decide)) (fun hz => (List.mem_cons.mp hz).elim (fun h => by subst h; exact Or.inl (by decide)) (fun hz => absurd hz List.not_mem_nil))))))))))))))))))))) (by decide) (by decide) (va_Nw.use rfl hZ.2.2.2.2.2.2.1) (va_Nw.use rfl (ZC_x1 hZ.1)) hce hcv hcl ?_
      refine lv_astore (lv' := [(5, .ref q), (0, .ref (E 0)), (1, .int (iI 2)), (2, .int (iI a)), (3, .int (iI b)), (4, .int (iI d))]) hx hb dL_act_118 hl (by decide) rfl (fun ls hl => ?_)
      refine z_bipush hx hb dL_act_120 (by decide +kernel) ?_
      rw [hk3, ans_x1]
      exact cn_i hx hb hr hlocks rfl rfl hS hP (by decide) (by decide) dL_act_122
    · have hk3 : kx = 2 := hk9
      rw [hk3, exN_2] at hcl
      refine vx_catch (own := RL) (name := "java/lang/IllegalArgumentException") (E := "java/lang/IllegalArgumentException") hown [⟨0, 53, 108, 72⟩, ⟨54, 60, 108, 72⟩, ⟨61, 66, 108, 72⟩, ⟨67, 73, 108, 72⟩, ⟨74, 79, 108, 72⟩, ⟨80, 88, 108, 72⟩, ⟨89, 95, 108, 72⟩, ⟨96, 101, 108, 72⟩, ⟨102, 107, 108, 72⟩, ⟨0, 53, 113, 74⟩, ⟨54, 60, 113, 74⟩] ⟨61, 66, 113, 74⟩ [⟨67, 73, 113, 74⟩, ⟨74, 79, 113, 74⟩, ⟨80, 88, 113, 74⟩, ⟨89, 95, 113, 74⟩, ⟨96, 101, 113, 74⟩, ⟨102, 107, 113, 74⟩, ⟨0, 53, 118, 76⟩, ⟨54, 60, 118, 76⟩, ⟨61, 66, 118, 76⟩, ⟨67, 73, 118, 76⟩, ⟨74, 79, 118, 76⟩, ⟨80, 88, 118, 76⟩, ⟨89, 95, 118, 76⟩, ⟨96, 101, 118, 76⟩, ⟨102, 107, 118, 76⟩] htab (fun z hz => (List.mem_cons.mp hz).elim (fun h => by subst h; exact Or.inl (by decide)) (fun hz => (List.mem_cons.mp hz).elim (fun h => by subst h; exact Or.inl (by decide)) (fun hz => (List.mem_cons.mp hz).elim (fun h => by subst h; exact Or.inr ⟨by decide, _, (hts (.classLink RL 72 "java/lang/UnsupportedOperationException") cl_act_72), hZ.2.1⟩) (fun hz => (List.mem_cons.mp hz).elim (fun h => by subst h; exact Or.inl (by decide)) (fun hz => (List.mem_cons.mp hz).elim (fun h => by subst h; exact Or.inl (by decide)) (fun hz => (List.mem_cons.mp hz).elim (fun h => by subst h; exact Or.inl (by decide)) (fun hz => (List.mem_cons.mp hz).elim (fun h => by subst h; exact Or.inl (by decide)) (fun hz => (List.mem_cons.mp hz).elim (fun h => by subst h; exact Or.inl (by decide)) (fun hz => (List.mem_cons.mp hz).elim (fun h => by subst h; exact Or.inl (by decide)) (fun hz => (List.mem_cons.mp hz).elim (fun h => by subst h; exact Or.inl (by decide)) (fun hz => (List.mem_cons.mp hz).elim (fun h => by subst h; exact Or.inl (by decide)) (fun hz => absurd hz List.not_mem_nil)))))))))))) (by decide) (by decide) (va_Nw.use rfl hZ.2.2.2.2.2.1) (va_Nw.use rfl (ZC_x2 hZ.1)) hce hcv hcl ?_
      refine lv_astore (lv' := [(5, .ref q), (0, .ref (E 0)), (1, .int (iI 2)), (2, .int (iI a)), (3, .int (iI b)), (4, .int (iI d))]) hx hb dL_act_113 hl (by decide) rfl (fun ls hl => ?_)
      refine z_bipush hx hb dL_act_115 (by decide +kernel) ?_
      rw [hk3, ans_x2]
      exact cn_i hx hb hr hlocks rfl rfl hS hP (by decide) (by decide) dL_act_117
    · have hk3 : kx = 3 := hk9
      rw [hk3, exN_3] at hcl
      refine vx_catch (own := RL) (name := "java/lang/UnsupportedOperationException") (E := "java/lang/UnsupportedOperationException") hown [⟨0, 53, 108, 72⟩, ⟨54, 60, 108, 72⟩] ⟨61, 66, 108, 72⟩ [⟨67, 73, 108, 72⟩, ⟨74, 79, 108, 72⟩, ⟨80, 88, 108, 72⟩, ⟨89, 95, 108, 72⟩, ⟨96, 101, 108, 72⟩, ⟨102, 107, 108, 72⟩, ⟨0, 53, 113, 74⟩, ⟨54, 60, 113, 74⟩, ⟨61, 66, 113, 74⟩, ⟨67, 73, 113, 74⟩, ⟨74, 79, 113, 74⟩, ⟨80, 88, 113, 74⟩, ⟨89, 95, 113, 74⟩, ⟨96, 101, 113, 74⟩, ⟨102, 107, 113, 74⟩, ⟨0, 53, 118, 76⟩, ⟨54, 60, 118, 76⟩, ⟨61, 66, 118, 76⟩, ⟨67, 73, 118, 76⟩, ⟨74, 79, 118, 76⟩, ⟨80, 88, 118, 76⟩, ⟨89, 95, 118, 76⟩, ⟨96, 101, 118, 76⟩, ⟨102, 107, 118, 76⟩] htab (fun z hz => (List.mem_cons.mp hz).elim (fun h => by subst h; exact Or.inl (by decide)) (fun hz => (List.mem_cons.mp hz).elim (fun h => by subst h; exact Or.inl (by decide)) (fun hz => absurd hz List.not_mem_nil))) (by decide) (by decide) (hts (.classLink RL 72 "java/lang/UnsupportedOperationException") cl_act_72) (va_Nw.use rfl (ZC_x3 hZ.1)) hce hcv hcl ?_
      refine lv_astore (lv' := [(5, .ref q), (0, .ref (E 0)), (1, .int (iI 2)), (2, .int (iI a)), (3, .int (iI b)), (4, .int (iI d))]) hx hb dL_act_108 hl (by decide) rfl (fun ls hl => ?_)
      refine z_bipush hx hb dL_act_110 (by decide +kernel) ?_
      rw [hk3, ans_x3]
      exact cn_i hx hb hr hlocks rfl rfl hS hP (by decide) (by decide) dL_act_112
set_option maxRecDepth 100000 in
set_option maxHeartbeats 4000000 in
theorem kL_act_3 (l : Launch) (hst : l.stackTraces = false) (D : va_G) (E : Nat → Nat) (cI cC : ClassId) (T : Nat → Nat) (M : Mem) (a b d : Int) (pa : I32 a) (pb : I32 b) (hC : CI M) (hQ : SI M) (hH : HN M) : Cn l yL_act wsL_act 20 400 1 [.ref (E 0), .int (iI 3), .int (iI a), .int (iI b), .int (iI d)] D (TY cI cC) (VC E cI cC) (ZL E cI cC T) M (some (.int (iI (fL_ans (fX8_lay M a b)).1))) (fL_ans (fX8_lay M a b)).2 := by
  obtain ⟨kx, r, M', hE⟩ : ∃ kx r M', fX8_lay M a b = (kx, r, M') := ⟨_, _, _, rfl⟩
  rw [hE]
  refine Cn.ofW (cc := cL_act) (maxL := 6) (ret := (some .int)) (hh := [(0, 53, 108, 72), (54, 60, 108, 72), (61, 66, 108, 72), (67, 73, 108, 72), (74, 79, 108, 72), (80, 88, 108, 72), (89, 95, 108, 72), (96, 101, 108, 72), (102, 107, 108, 72), (0, 53, 113, 74), (54, 60, 113, 74), (61, 66, 113, 74), (67, 73, 113, 74), (74, 79, 113, 74), (80, 88, 113, 74), (89, 95, 113, 74), (96, 101, 113, 74), (102, 107, 113, 74), (0, 53, 118, 76), (54, 60, 118, 76), (61, 66, 118, 76), (67, 73, 118, 76), (74, 79, 118, 76), (80, 88, 118, 76), (89, 95, 118, 76), (96, 101, 118, 76), (102, 107, 118, 76)]) (by decide +kernel) rfl (Nat.le_of_ble_eq_true rfl) ?_
  intro p e s m args below meth c ls hx hb hml hr hown hts hlocks hP hK hD hZ hS htab hl
  have hl : lv_has ls 6 [(0, .ref (E 0)), (1, .int (iI 3)), (2, .int (iI a)), (3, .int (iI b)), (4, .int (iI d))] := hl
  have S0 : CallFix p m c cL_act 6 s args wsL_act RL := ⟨hx, hb, hml, hown, hts⟩
  refine lv_iload_n hx hb dL_act_0 rfl (lv_at hl 1 rfl) ?_
  refine z_table (k0 := 3) (tgt := 67) hx hb dL_act_1 (by decide) rfl (by decide) (by decide) rfl (by decide) ?_
  refine lv_aload_n hx hb dL_act_67 rfl (lv_at hl 0 rfl) ?_
  refine lv_iload_n hx hb dL_act_68 rfl (lv_at hl 2 rfl) ?_
  refine lv_iload_n hx hb dL_act_69 rfl (lv_at hl 3 rfl) ?_
  refine l1_VX (rest := []) (As := [.int (iI a), .int (iI b)]) S0 (kX8_lay l hst D E cI cC T M a b pa pb hC hQ hH kx r M' hE) (cwV 2 hts gL_act_X8_lay rfl rfl rfl (by decide +kernel) ⟨(Nat.le_of_ble_eq_true rfl), (Nat.le_of_ble_eq_true rfl)⟩) (ZC_bl E cI cC T) (l1_Z (ZC_ok E cI cC T M) hS hZ.1) hK hP hD hS rfl hl.1 rfl (Nat.le_of_ble_eq_true rfl) dL_act_70 ⟨by decide, by decide⟩ (fun hk H locs hP hD hS => ?_) (fun hk H locs q ce hP hD hS hce hcv hcl => ?_)
  · rw [hk, ans_0]
    exact cn_i hx hb hr hlocks rfl rfl hS hP (by decide) (by decide) dL_act_73
  · have hk9 := lay_k M a b
    rw [hE] at hk9
    rcases hk9 with hk9 | hk9 | hk9 | hk9
    · exact absurd hk9 hk
    · have hk3 : kx = 1 := hk9
      rw [hk3, exN_1] at hcl
      refine vx_catch (own := RL) (name := "java/lang/IndexOutOfBoundsException") (E := "java/lang/IndexOutOfBoundsException") hown [⟨0, 53, 108, 72⟩, ⟨54, 60, 108, 72⟩, ⟨61, 66, 108, 72⟩, ⟨67, 73, 108, 72⟩, ⟨74, 79, 108, 72⟩, ⟨80, 88, 108, 72⟩, ⟨89, 95, 108, 72⟩, ⟨96, 101, 108, 72⟩, ⟨102, 107, 108, 72⟩, ⟨0, 53, 113, 74⟩, ⟨54, 60, 113, 74⟩, ⟨61, 66, 113, 74⟩, ⟨67, 73, 113, 74⟩, ⟨74, 79, 113, 74⟩, ⟨80, 88, 113, 74⟩, ⟨89, 95, 113, 74⟩, ⟨96, 101, 113, 74⟩, ⟨102, 107, 113, 74⟩, ⟨0, 53, 118, 76⟩, ⟨54, 60, 118, 76⟩, ⟨61, 66, 118, 76⟩] ⟨67, 73, 118, 76⟩ [⟨74, 79, 118, 76⟩, ⟨80, 88, 118, 76⟩, ⟨89, 95, 118, 76⟩, ⟨96, 101, 118, 76⟩, ⟨102, 107, 118, 76⟩] htab (fun z hz => (List.mem_cons.mp hz).elim (fun h => by subst h; exact Or.inl (by decide)) (fun hz => (List.mem_cons.mp hz).elim (fun h => by subst h; exact Or.inl (by decide)) (fun hz => (List.mem_cons.mp hz).elim (fun h => by subst h; exact Or.inl (by decide)) (fun hz => (List.mem_cons.mp hz).elim (fun h => by subst h; exact Or.inr ⟨by decide, _, (hts (.classLink RL 72 "java/lang/UnsupportedOperationException") cl_act_72), hZ.2.2.1⟩) (fun hz => (List.mem_cons.mp hz).elim (fun h => by subst h; exact Or.inl (by decide)) (fun hz => (List.mem_cons.mp hz).elim (fun h => by subst h; exact Or.inl (by decide)) (fun hz => (List.mem_cons.mp hz).elim (fun h => by subst h; exact Or.inl (by decide)) (fun hz => (List.mem_cons.mp hz).elim (fun h => by subst h; exact Or.inl (by decide)) (fun hz => (List.mem_cons.mp hz).elim (fun h => by subst h; exact Or.inl (by decide)) (fun hz => (List.mem_cons.mp hz).elim (fun h => by subst h; exact Or.inl (by decide)) (fun hz => (List.mem_cons.mp hz).elim (fun h => by subst h; exact Or.inl (by decide)) (fun hz => (List.mem_cons.mp hz).elim (fun h => by subst h; exact Or.inl (by decide)) (fun hz => (List.mem_cons.mp hz).elim (fun h => by subst h; exact Or.inr ⟨by decide, _, (va_Nw.use rfl hZ.2.2.2.2.2.1), hZ.2.2.2.1⟩) (fun hz => (List.mem_cons.mp hz).elim (fun h => by subst h; exact Or.inl (by decide)) (fun hz => (List.mem_cons.mp hz).elim (fun h => by subst h; exact Or.inl (by decide)) (fun hz => (List.mem_cons.mp hz).elim (fun h => by subst h; exact Or.inl (by decide)) (fun hz => (List.mem_cons.mp hz).elim (fun h => by subst h; exact Or.inl (by decide)) (fun hz => (List.mem_cons.mp hz).elim (fun h => by subst h; exact Or.inl (by decide)) (fun hz => (List.mem_cons.mp hz).elim (fun h => by subst h; exact Or.inl (by decide)) (fun hz => (List.mem_cons.mp hz).elim (fun h => by subst h; exact Or.inl (by decide)) (fun hz => (List.mem_cons.mp hz).elim (fun h => by subst h; exact Or.inl (by decide)) (fun hz => absurd hz List.not_mem_nil)))))))))))))))))))))) (by decide) (by decide) (va_Nw.use rfl hZ.2.2.2.2.2.2.1) (va_Nw.use rfl (ZC_x1 hZ.1)) hce hcv hcl ?_
      refine lv_astore (lv' := [(5, .ref q), (0, .ref (E 0)), (1, .int (iI 3)), (2, .int (iI a)), (3, .int (iI b)), (4, .int (iI d))]) hx hb dL_act_118 hl (by decide) rfl (fun ls hl => ?_)
      refine z_bipush hx hb dL_act_120 (by decide +kernel) ?_
      rw [hk3, ans_x1]
      exact cn_i hx hb hr hlocks rfl rfl hS hP (by decide) (by decide) dL_act_122
    · have hk3 : kx = 2 := hk9
      rw [hk3, exN_2] at hcl
      refine vx_catch (own := RL) (name := "java/lang/IllegalArgumentException") (E := "java/lang/IllegalArgumentException") hown [⟨0, 53, 108, 72⟩, ⟨54, 60, 108, 72⟩, ⟨61, 66, 108, 72⟩, ⟨67, 73, 108, 72⟩, ⟨74, 79, 108, 72⟩, ⟨80, 88, 108, 72⟩, ⟨89, 95, 108, 72⟩, ⟨96, 101, 108, 72⟩, ⟨102, 107, 108, 72⟩, ⟨0, 53, 113, 74⟩, ⟨54, 60, 113, 74⟩, ⟨61, 66, 113, 74⟩] ⟨67, 73, 113, 74⟩ [⟨74, 79, 113, 74⟩, ⟨80, 88, 113, 74⟩, ⟨89, 95, 113, 74⟩, ⟨96, 101, 113, 74⟩, ⟨102, 107, 113, 74⟩, ⟨0, 53, 118, 76⟩, ⟨54, 60, 118, 76⟩, ⟨61, 66, 118, 76⟩, ⟨67, 73, 118, 76⟩, ⟨74, 79, 118, 76⟩, ⟨80, 88, 118, 76⟩, ⟨89, 95, 118, 76⟩, ⟨96, 101, 118, 76⟩, ⟨102, 107, 118, 76⟩] htab (fun z hz => (List.mem_cons.mp hz).elim (fun h => by subst h; exact Or.inl (by decide)) (fun hz => (List.mem_cons.mp hz).elim (fun h => by subst h; exact Or.inl (by decide)) (fun hz => (List.mem_cons.mp hz).elim (fun h => by subst h; exact Or.inl (by decide)) (fun hz => (List.mem_cons.mp hz).elim (fun h => by subst h; exact Or.inr ⟨by decide, _, (hts (.classLink RL 72 "java/lang/UnsupportedOperationException") cl_act_72), hZ.2.1⟩) (fun hz => (List.mem_cons.mp hz).elim (fun h => by subst h; exact Or.inl (by decide)) (fun hz => (List.mem_cons.mp hz).elim (fun h => by subst h; exact Or.inl (by decide)) (fun hz => (List.mem_cons.mp hz).elim (fun h => by subst h; exact Or.inl (by decide)) (fun hz => (List.mem_cons.mp hz).elim (fun h => by subst h; exact Or.inl (by decide)) (fun hz => (List.mem_cons.mp hz).elim (fun h => by subst h; exact Or.inl (by decide)) (fun hz => (List.mem_cons.mp hz).elim (fun h => by subst h; exact Or.inl (by decide)) (fun hz => (List.mem_cons.mp hz).elim (fun h => by subst h; exact Or.inl (by decide)) (fun hz => (List.mem_cons.mp hz).elim (fun h => by subst h; exact Or.inl (by decide)) (fun hz => absurd hz List.not_mem_nil))))))))))))) (by decide) (by decide) (va_Nw.use rfl hZ.2.2.2.2.2.1) (va_Nw.use rfl (ZC_x2 hZ.1)) hce hcv hcl ?_
      refine lv_astore (lv' := [(5, .ref q), (0, .ref (E 0)), (1, .int (iI 3)), (2, .int (iI a)), (3, .int (iI b)), (4, .int (iI d))]) hx hb dL_act_113 hl (by decide) rfl (fun ls hl => ?_)
      refine z_bipush hx hb dL_act_115 (by decide +kernel) ?_
      rw [hk3, ans_x2]
      exact cn_i hx hb hr hlocks rfl rfl hS hP (by decide) (by decide) dL_act_117
    · have hk3 : kx = 3 := hk9
      rw [hk3, exN_3] at hcl
      refine vx_catch (own := RL) (name := "java/lang/UnsupportedOperationException") (E := "java/lang/UnsupportedOperationException") hown [⟨0, 53, 108, 72⟩, ⟨54, 60, 108, 72⟩, ⟨61, 66, 108, 72⟩] ⟨67, 73, 108, 72⟩ [⟨74, 79, 108, 72⟩, ⟨80, 88, 108, 72⟩, ⟨89, 95, 108, 72⟩, ⟨96, 101, 108, 72⟩, ⟨102, 107, 108, 72⟩, ⟨0, 53, 113, 74⟩, ⟨54, 60, 113, 74⟩, ⟨61, 66, 113, 74⟩, ⟨67, 73, 113, 74⟩, ⟨74, 79, 113, 74⟩, ⟨80, 88, 113, 74⟩, ⟨89, 95, 113, 74⟩, ⟨96, 101, 113, 74⟩, ⟨102, 107, 113, 74⟩, ⟨0, 53, 118, 76⟩, ⟨54, 60, 118, 76⟩, ⟨61, 66, 118, 76⟩, ⟨67, 73, 118, 76⟩, ⟨74, 79, 118, 76⟩, ⟨80, 88, 118, 76⟩, ⟨89, 95, 118, 76⟩, ⟨96, 101, 118, 76⟩, ⟨102, 107, 118, 76⟩] htab (fun z hz => (List.mem_cons.mp hz).elim (fun h => by subst h; exact Or.inl (by decide)) (fun hz => (List.mem_cons.mp hz).elim (fun h => by subst h; exact Or.inl (by decide)) (fun hz => (List.mem_cons.mp hz).elim (fun h => by subst h; exact Or.inl (by decide)) (fun hz => absurd hz List.not_mem_nil)))) (by decide) (by decide) (hts (.classLink RL 72 "java/lang/UnsupportedOperationException") cl_act_72) (va_Nw.use rfl (ZC_x3 hZ.1)) hce hcv hcl ?_
      refine lv_astore (lv' := [(5, .ref q), (0, .ref (E 0)), (1, .int (iI 3)), (2, .int (iI a)), (3, .int (iI b)), (4, .int (iI d))]) hx hb dL_act_108 hl (by decide) rfl (fun ls hl => ?_)
      refine z_bipush hx hb dL_act_110 (by decide +kernel) ?_
      rw [hk3, ans_x3]
      exact cn_i hx hb hr hlocks rfl rfl hS hP (by decide) (by decide) dL_act_112
set_option maxRecDepth 100000 in
set_option maxHeartbeats 4000000 in
theorem kL_act_4 (l : Launch) (hst : l.stackTraces = false) (D : va_G) (E : Nat → Nat) (cI cC : ClassId) (T : Nat → Nat) (M : Mem) (a b d : Int) (pa : I32 a) (hC : CI M) (hQ : SI M) (hH : HN M) : Cn l yL_act wsL_act 20 400 1 [.ref (E 0), .int (iI 4), .int (iI a), .int (iI b), .int (iI d)] D (TY cI cC) (VC E cI cC) (ZL E cI cC T) M (some (.int (iI (fL_ans (fX8_take M a)).1))) (fL_ans (fX8_take M a)).2 := by
  obtain ⟨kx, r, M', hE⟩ : ∃ kx r M', fX8_take M a = (kx, r, M') := ⟨_, _, _, rfl⟩
  rw [hE]
  refine Cn.ofW (cc := cL_act) (maxL := 6) (ret := (some .int)) (hh := [(0, 53, 108, 72), (54, 60, 108, 72), (61, 66, 108, 72), (67, 73, 108, 72), (74, 79, 108, 72), (80, 88, 108, 72), (89, 95, 108, 72), (96, 101, 108, 72), (102, 107, 108, 72), (0, 53, 113, 74), (54, 60, 113, 74), (61, 66, 113, 74), (67, 73, 113, 74), (74, 79, 113, 74), (80, 88, 113, 74), (89, 95, 113, 74), (96, 101, 113, 74), (102, 107, 113, 74), (0, 53, 118, 76), (54, 60, 118, 76), (61, 66, 118, 76), (67, 73, 118, 76), (74, 79, 118, 76), (80, 88, 118, 76), (89, 95, 118, 76), (96, 101, 118, 76), (102, 107, 118, 76)]) (by decide +kernel) rfl (Nat.le_of_ble_eq_true rfl) ?_
  intro p e s m args below meth c ls hx hb hml hr hown hts hlocks hP hK hD hZ hS htab hl
  have hl : lv_has ls 6 [(0, .ref (E 0)), (1, .int (iI 4)), (2, .int (iI a)), (3, .int (iI b)), (4, .int (iI d))] := hl
  have S0 : CallFix p m c cL_act 6 s args wsL_act RL := ⟨hx, hb, hml, hown, hts⟩
  refine lv_iload_n hx hb dL_act_0 rfl (lv_at hl 1 rfl) ?_
  refine z_table (k0 := 4) (tgt := 74) hx hb dL_act_1 (by decide) rfl (by decide) (by decide) rfl (by decide) ?_
  refine lv_aload_n hx hb dL_act_74 rfl (lv_at hl 0 rfl) ?_
  refine lv_iload_n hx hb dL_act_75 rfl (lv_at hl 2 rfl) ?_
  refine l1_VX (rest := []) (As := [.int (iI a)]) S0 (kX8_take l hst D E cI cC T M a pa hC hQ hH kx r M' hE) (cwV 1 hts gL_act_X8_take rfl rfl rfl (by decide +kernel) ⟨(Nat.le_of_ble_eq_true rfl), (Nat.le_of_ble_eq_true rfl)⟩) (ZC_bl E cI cC T) (l1_Z (ZC_ok E cI cC T M) hS hZ.1) hK hP hD hS rfl hl.1 rfl (Nat.le_of_ble_eq_true rfl) dL_act_76 ⟨by decide, by decide⟩ (fun hk H locs hP hD hS => ?_) (fun hk H locs q ce hP hD hS hce hcv hcl => ?_)
  · rw [hk, ans_0]
    exact cn_i hx hb hr hlocks rfl rfl hS hP (by decide) (by decide) dL_act_79
  · have hk9 := take_k M a
    rw [hE] at hk9
    rcases hk9 with hk9 | hk9 | hk9 | hk9
    · exact absurd hk9 hk
    · have hk3 : kx = 1 := hk9
      rw [hk3, exN_1] at hcl
      refine vx_catch (own := RL) (name := "java/lang/IndexOutOfBoundsException") (E := "java/lang/IndexOutOfBoundsException") hown [⟨0, 53, 108, 72⟩, ⟨54, 60, 108, 72⟩, ⟨61, 66, 108, 72⟩, ⟨67, 73, 108, 72⟩, ⟨74, 79, 108, 72⟩, ⟨80, 88, 108, 72⟩, ⟨89, 95, 108, 72⟩, ⟨96, 101, 108, 72⟩, ⟨102, 107, 108, 72⟩, ⟨0, 53, 113, 74⟩, ⟨54, 60, 113, 74⟩, ⟨61, 66, 113, 74⟩, ⟨67, 73, 113, 74⟩, ⟨74, 79, 113, 74⟩, ⟨80, 88, 113, 74⟩, ⟨89, 95, 113, 74⟩, ⟨96, 101, 113, 74⟩, ⟨102, 107, 113, 74⟩, ⟨0, 53, 118, 76⟩, ⟨54, 60, 118, 76⟩, ⟨61, 66, 118, 76⟩, ⟨67, 73, 118, 76⟩] ⟨74, 79, 118, 76⟩ [⟨80, 88, 118, 76⟩, ⟨89, 95, 118, 76⟩, ⟨96, 101, 118, 76⟩, ⟨102, 107, 118, 76⟩] htab (fun z hz => (List.mem_cons.mp hz).elim (fun h => by subst h; exact Or.inl (by decide)) (fun hz => (List.mem_cons.mp hz).elim (fun h => by subst h; exact Or.inl (by decide)) (fun hz => (List.mem_cons.mp hz).elim (fun h => by subst h; exact Or.inl (by decide)) (fun hz => (List.mem_cons.mp hz).elim (fun h => by subst h; exact Or.inl (by decide)) (fun hz => (List.mem_cons.mp hz).elim (fun h => by subst h; exact Or.inr ⟨by decide, _, (hts (.classLink RL 72 "java/lang/UnsupportedOperationException") cl_act_72), hZ.2.2.1⟩) (fun hz => (List.mem_cons.mp hz).elim (fun h => by subst h; exact Or.inl (by decide)) (fun hz => (List.mem_cons.mp hz).elim (fun h => by subst h; exact Or.inl (by decide)) (fun hz => (List.mem_cons.mp hz).elim (fun h => by subst h; exact Or.inl (by decide)) (fun hz => (List.mem_cons.mp hz).elim (fun h => by subst h; exact Or.inl (by decide)) (fun hz => (List.mem_cons.mp hz).elim (fun h => by subst h; exact Or.inl (by decide)) (fun hz => (List.mem_cons.mp hz).elim (fun h => by subst h; exact Or.inl (by decide)) (fun hz => (List.mem_cons.mp hz).elim (fun h => by subst h; exact Or.inl (by decide)) (fun hz => (List.mem_cons.mp hz).elim (fun h => by subst h; exact Or.inl (by decide)) (fun hz => (List.mem_cons.mp hz).elim (fun h => by subst h; exact Or.inr ⟨by decide, _, (va_Nw.use rfl hZ.2.2.2.2.2.1), hZ.2.2.2.1⟩) (fun hz => (List.mem_cons.mp hz).elim (fun h => by subst h; exact Or.inl (by decide)) (fun hz => (List.mem_cons.mp hz).elim (fun h => by subst h; exact Or.inl (by decide)) (fun hz => (List.mem_cons.mp hz).elim (fun h => by subst h; exact Or.inl (by decide)) (fun hz => (List.mem_cons.mp hz).elim (fun h => by subst h; exact Or.inl (by decide)) (fun hz => (List.mem_cons.mp hz).elim (fun h => by subst h; exact Or.inl (by decide)) (fun hz => (List.mem_cons.mp hz).elim (fun h => by subst h; exact Or.inl (by decide)) (fun hz => (List.mem_cons.mp hz).elim (fun h => by subst h; exact Or.inl (by decide)) (fun hz => (List.mem_cons.mp hz).elim (fun h => by subst h; exact Or.inl (by decide)) (fun hz => absurd hz List.not_mem_nil))))))))))))))))))))))) (by decide) (by decide) (va_Nw.use rfl hZ.2.2.2.2.2.2.1) (va_Nw.use rfl (ZC_x1 hZ.1)) hce hcv hcl ?_
      refine lv_astore (lv' := [(5, .ref q), (0, .ref (E 0)), (1, .int (iI 4)), (2, .int (iI a)), (3, .int (iI b)), (4, .int (iI d))]) hx hb dL_act_118 hl (by decide) rfl (fun ls hl => ?_)
      refine z_bipush hx hb dL_act_120 (by decide +kernel) ?_
      rw [hk3, ans_x1]
      exact cn_i hx hb hr hlocks rfl rfl hS hP (by decide) (by decide) dL_act_122
    · have hk3 : kx = 2 := hk9
      rw [hk3, exN_2] at hcl
      refine vx_catch (own := RL) (name := "java/lang/IllegalArgumentException") (E := "java/lang/IllegalArgumentException") hown [⟨0, 53, 108, 72⟩, ⟨54, 60, 108, 72⟩, ⟨61, 66, 108, 72⟩, ⟨67, 73, 108, 72⟩, ⟨74, 79, 108, 72⟩, ⟨80, 88, 108, 72⟩, ⟨89, 95, 108, 72⟩, ⟨96, 101, 108, 72⟩, ⟨102, 107, 108, 72⟩, ⟨0, 53, 113, 74⟩, ⟨54, 60, 113, 74⟩, ⟨61, 66, 113, 74⟩, ⟨67, 73, 113, 74⟩] ⟨74, 79, 113, 74⟩ [⟨80, 88, 113, 74⟩, ⟨89, 95, 113, 74⟩, ⟨96, 101, 113, 74⟩, ⟨102, 107, 113, 74⟩, ⟨0, 53, 118, 76⟩, ⟨54, 60, 118, 76⟩, ⟨61, 66, 118, 76⟩, ⟨67, 73, 118, 76⟩, ⟨74, 79, 118, 76⟩, ⟨80, 88, 118, 76⟩, ⟨89, 95, 118, 76⟩, ⟨96, 101, 118, 76⟩, ⟨102, 107, 118, 76⟩] htab (fun z hz => (List.mem_cons.mp hz).elim (fun h => by subst h; exact Or.inl (by decide)) (fun hz => (List.mem_cons.mp hz).elim (fun h => by subst h; exact Or.inl (by decide)) (fun hz => (List.mem_cons.mp hz).elim (fun h => by subst h; exact Or.inl (by decide)) (fun hz => (List.mem_cons.mp hz).elim (fun h => by subst h; exact Or.inl (by decide)) (fun hz => (List.mem_cons.mp hz).elim (fun h => by subst h; exact Or.inr ⟨by decide, _, (hts (.classLink RL 72 "java/lang/UnsupportedOperationException") cl_act_72), hZ.2.1⟩) (fun hz => (List.mem_cons.mp hz).elim (fun h => by subst h; exact Or.inl (by decide)) (fun hz => (List.mem_cons.mp hz).elim (fun h => by subst h; exact Or.inl (by decide)) (fun hz => (List.mem_cons.mp hz).elim (fun h => by subst h; exact Or.inl (by decide)) (fun hz => (List.mem_cons.mp hz).elim (fun h => by subst h; exact Or.inl (by decide)) (fun hz => (List.mem_cons.mp hz).elim (fun h => by subst h; exact Or.inl (by decide)) (fun hz => (List.mem_cons.mp hz).elim (fun h => by subst h; exact Or.inl (by decide)) (fun hz => (List.mem_cons.mp hz).elim (fun h => by subst h; exact Or.inl (by decide)) (fun hz => (List.mem_cons.mp hz).elim (fun h => by subst h; exact Or.inl (by decide)) (fun hz => absurd hz List.not_mem_nil)))))))))))))) (by decide) (by decide) (va_Nw.use rfl hZ.2.2.2.2.2.1) (va_Nw.use rfl (ZC_x2 hZ.1)) hce hcv hcl ?_
      refine lv_astore (lv' := [(5, .ref q), (0, .ref (E 0)), (1, .int (iI 4)), (2, .int (iI a)), (3, .int (iI b)), (4, .int (iI d))]) hx hb dL_act_113 hl (by decide) rfl (fun ls hl => ?_)
      refine z_bipush hx hb dL_act_115 (by decide +kernel) ?_
      rw [hk3, ans_x2]
      exact cn_i hx hb hr hlocks rfl rfl hS hP (by decide) (by decide) dL_act_117
    · have hk3 : kx = 3 := hk9
      rw [hk3, exN_3] at hcl
      refine vx_catch (own := RL) (name := "java/lang/UnsupportedOperationException") (E := "java/lang/UnsupportedOperationException") hown [⟨0, 53, 108, 72⟩, ⟨54, 60, 108, 72⟩, ⟨61, 66, 108, 72⟩, ⟨67, 73, 108, 72⟩] ⟨74, 79, 108, 72⟩ [⟨80, 88, 108, 72⟩, ⟨89, 95, 108, 72⟩, ⟨96, 101, 108, 72⟩, ⟨102, 107, 108, 72⟩, ⟨0, 53, 113, 74⟩, ⟨54, 60, 113, 74⟩, ⟨61, 66, 113, 74⟩, ⟨67, 73, 113, 74⟩, ⟨74, 79, 113, 74⟩, ⟨80, 88, 113, 74⟩, ⟨89, 95, 113, 74⟩, ⟨96, 101, 113, 74⟩, ⟨102, 107, 113, 74⟩, ⟨0, 53, 118, 76⟩, ⟨54, 60, 118, 76⟩, ⟨61, 66, 118, 76⟩, ⟨67, 73, 118, 76⟩, ⟨74, 79, 118, 76⟩, ⟨80, 88, 118, 76⟩, ⟨89, 95, 118, 76⟩, ⟨96, 101, 118, 76⟩, ⟨102, 107, 118, 76⟩] htab (fun z hz => (List.mem_cons.mp hz).elim (fun h => by subst h; exact Or.inl (by decide)) (fun hz => (List.mem_cons.mp hz).elim (fun h => by subst h; exact Or.inl (by decide)) (fun hz => (List.mem_cons.mp hz).elim (fun h => by subst h; exact Or.inl (by decide)) (fun hz => (List.mem_cons.mp hz).elim (fun h => by subst h; exact Or.inl (by decide)) (fun hz => absurd hz List.not_mem_nil))))) (by decide) (by decide) (hts (.classLink RL 72 "java/lang/UnsupportedOperationException") cl_act_72) (va_Nw.use rfl (ZC_x3 hZ.1)) hce hcv hcl ?_
      refine lv_astore (lv' := [(5, .ref q), (0, .ref (E 0)), (1, .int (iI 4)), (2, .int (iI a)), (3, .int (iI b)), (4, .int (iI d))]) hx hb dL_act_108 hl (by decide) rfl (fun ls hl => ?_)
      refine z_bipush hx hb dL_act_110 (by decide +kernel) ?_
      rw [hk3, ans_x3]
      exact cn_i hx hb hr hlocks rfl rfl hS hP (by decide) (by decide) dL_act_112
set_option maxRecDepth 100000 in
set_option maxHeartbeats 4000000 in
theorem kL_act_5 (l : Launch) (hst : l.stackTraces = false) (D : va_G) (E : Nat → Nat) (cI cC : ClassId) (T : Nat → Nat) (M : Mem) (a b d : Int) (pa : I32 a) (pb : I32 b) (pd : I32 d) (hC : CI M) (hQ : SI M) (hH : HN M) : Cn l yL_act wsL_act 20 400 1 [.ref (E 0), .int (iI 5), .int (iI a), .int (iI b), .int (iI d)] D (TY cI cC) (VC E cI cC) (ZL E cI cC T) M (some (.int (iI (fL_ans (fX8_move M a b d)).1))) (fL_ans (fX8_move M a b d)).2 := by
  obtain ⟨kx, r, M', hE⟩ : ∃ kx r M', fX8_move M a b d = (kx, r, M') := ⟨_, _, _, rfl⟩
  rw [hE]
  refine Cn.ofW (cc := cL_act) (maxL := 6) (ret := (some .int)) (hh := [(0, 53, 108, 72), (54, 60, 108, 72), (61, 66, 108, 72), (67, 73, 108, 72), (74, 79, 108, 72), (80, 88, 108, 72), (89, 95, 108, 72), (96, 101, 108, 72), (102, 107, 108, 72), (0, 53, 113, 74), (54, 60, 113, 74), (61, 66, 113, 74), (67, 73, 113, 74), (74, 79, 113, 74), (80, 88, 113, 74), (89, 95, 113, 74), (96, 101, 113, 74), (102, 107, 113, 74), (0, 53, 118, 76), (54, 60, 118, 76), (61, 66, 118, 76), (67, 73, 118, 76), (74, 79, 118, 76), (80, 88, 118, 76), (89, 95, 118, 76), (96, 101, 118, 76), (102, 107, 118, 76)]) (by decide +kernel) rfl (Nat.le_of_ble_eq_true rfl) ?_
  intro p e s m args below meth c ls hx hb hml hr hown hts hlocks hP hK hD hZ hS htab hl
  have hl : lv_has ls 6 [(0, .ref (E 0)), (1, .int (iI 5)), (2, .int (iI a)), (3, .int (iI b)), (4, .int (iI d))] := hl
  have S0 : CallFix p m c cL_act 6 s args wsL_act RL := ⟨hx, hb, hml, hown, hts⟩
  refine lv_iload_n hx hb dL_act_0 rfl (lv_at hl 1 rfl) ?_
  refine z_table (k0 := 5) (tgt := 80) hx hb dL_act_1 (by decide) rfl (by decide) (by decide) rfl (by decide) ?_
  refine lv_aload_n hx hb dL_act_80 rfl (lv_at hl 0 rfl) ?_
  refine lv_iload_n hx hb dL_act_81 rfl (lv_at hl 2 rfl) ?_
  refine lv_iload_n hx hb dL_act_82 rfl (lv_at hl 3 rfl) ?_
  refine lv_iload hx hb dL_act_83 (lv_at hl 4 rfl) ?_
  refine l1_VX (rest := []) (As := [.int (iI a), .int (iI b), .int (iI d)]) S0 (kX8_move l hst D E cI cC T M a b d pa pb pd hC hQ hH kx r M' hE) (cwV 3 hts gL_act_X8_move rfl rfl rfl (by decide +kernel) ⟨(Nat.le_of_ble_eq_true rfl), (Nat.le_of_ble_eq_true rfl)⟩) (ZC_bl E cI cC T) (l1_Z (ZC_ok E cI cC T M) hS hZ.1) hK hP hD hS rfl hl.1 rfl (Nat.le_of_ble_eq_true rfl) dL_act_85 ⟨by decide, by decide⟩ (fun hk H locs hP hD hS => ?_) (fun hk H locs q ce hP hD hS hce hcv hcl => ?_)
  · rw [hk, ans_0]
    exact cn_i hx hb hr hlocks rfl rfl hS hP (by decide) (by decide) dL_act_88
  · have hk9 := move_k M a b d
    rw [hE] at hk9
    rcases hk9 with hk9 | hk9 | hk9 | hk9
    · exact absurd hk9 hk
    · have hk3 : kx = 1 := hk9
      rw [hk3, exN_1] at hcl
      refine vx_catch (own := RL) (name := "java/lang/IndexOutOfBoundsException") (E := "java/lang/IndexOutOfBoundsException") hown [⟨0, 53, 108, 72⟩, ⟨54, 60, 108, 72⟩, ⟨61, 66, 108, 72⟩, ⟨67, 73, 108, 72⟩, ⟨74, 79, 108, 72⟩, ⟨80, 88, 108, 72⟩, ⟨89, 95, 108, 72⟩, ⟨96, 101, 108, 72⟩, ⟨102, 107, 108, 72⟩, ⟨0, 53, 113, 74⟩, ⟨54, 60, 113, 74⟩, ⟨61, 66, 113, 74⟩, ⟨67, 73, 113, 74⟩, ⟨74, 79, 113, 74⟩, ⟨80, 88, 113, 74⟩, ⟨89, 95, 113, 74⟩, ⟨96, 101, 113, 74⟩, ⟨102, 107, 113, 74⟩, ⟨0, 53, 118, 76⟩, ⟨54, 60, 118, 76⟩, ⟨61, 66, 118, 76⟩, ⟨67, 73, 118, 76⟩, ⟨74, 79, 118, 76⟩] ⟨80, 88, 118, 76⟩ [⟨89, 95, 118, 76⟩, ⟨96, 101, 118, 76⟩, ⟨102, 107, 118, 76⟩] htab (fun z hz => (List.mem_cons.mp hz).elim (fun h => by subst h; exact Or.inl (by decide)) (fun hz => (List.mem_cons.mp hz).elim (fun h => by subst h; exact Or.inl (by decide)) (fun hz => (List.mem_cons.mp hz).elim (fun h => by subst h; exact Or.inl (by decide)) (fun hz => (List.mem_cons.mp hz).elim (fun h => by subst h; exact Or.inl (by decide)) (fun hz => (List.mem_cons.mp hz).elim (fun h => by subst h; exact Or.inl (by decide)) (fun hz => (List.mem_cons.mp hz).elim (fun h => by subst h; exact Or.inr ⟨by decide, _, (hts (.classLink RL 72 "java/lang/UnsupportedOperationException") cl_act_72), hZ.2.2.1⟩) (fun hz => (List.mem_cons.mp hz).elim (fun h => by subst h; exact Or.inl (by decide)) (fun hz => (List.mem_cons.mp hz).elim (fun h => by subst h; exact Or.inl (by decide)) (fun hz => (List.mem_cons.mp hz).elim (fun h => by subst h; exact Or.inl (by decide)) (fun hz => (List.mem_cons.mp hz).elim (fun h => by subst h; exact Or.inl (by decide)) (fun hz => (List.mem_cons.mp hz).elim (fun h => by subst h; exact Or.inl (by decide)) (fun hz => (List.mem_cons.mp hz).elim (fun h => by subst h; exact Or.inl (by decide)) (fun hz => (List.mem_cons.mp hz).elim (fun h => by subst h; exact Or.inl (by decide)) (fun hz => (List.mem_cons.mp hz).elim (fun h => by subst h; exact Or.inl (by decide)) (fun hz => (List.mem_cons.mp hz).elim (fun h => by subst h; exact Or.inr ⟨by decide, _, (va_Nw.use rfl hZ.2.2.2.2.2.1), hZ.2.2.2.1⟩) (fun hz => (List.mem_cons.mp hz).elim (fun h => by subst h; exact Or.inl (by decide)) (fun hz => (List.mem_cons.mp hz).elim (fun h => by subst h; exact Or.inl (by decide)) (fun hz => (List.mem_cons.mp hz).elim (fun h => by subst h; exact Or.inl (by decide)) (fun hz => (List.mem_cons.mp hz).elim (fun h => by subst h; exact Or.inl (by decide)) (fun hz => (List.mem_cons.mp hz).elim (fun h => by subst h; exact Or.inl (by decide)) (fun hz => (List.mem_cons.mp hz).elim (fun h => by subst h; exact Or.inl (by decide)) (fun hz => (List.mem_cons.mp hz).elim (fun h => by subst h; exact Or.inl (by decide)) (fun hz => (List.mem_cons.mp hz).elim (fun h => by subst h; exact Or.inl (by decide)) (fun hz => absurd hz List.not_mem_nil)))))))))))))))))))))))) (by decide) (by decide) (va_Nw.use rfl hZ.2.2.2.2.2.2.1) (va_Nw.use rfl (ZC_x1 hZ.1)) hce hcv hcl ?_
      refine lv_astore (lv' := [(5, .ref q), (0, .ref (E 0)), (1, .int (iI 5)), (2, .int (iI a)), (3, .int (iI b)), (4, .int (iI d))]) hx hb dL_act_118 hl (by decide) rfl (fun ls hl => ?_)
      refine z_bipush hx hb dL_act_120 (by decide +kernel) ?_
      rw [hk3, ans_x1]
      exact cn_i hx hb hr hlocks rfl rfl hS hP (by decide) (by decide) dL_act_122
    · have hk3 : kx = 2 := hk9
      rw [hk3, exN_2] at hcl
      refine vx_catch (own := RL) (name := "java/lang/IllegalArgumentException") (E := "java/lang/IllegalArgumentException") hown [⟨0, 53, 108, 72⟩, ⟨54, 60, 108, 72⟩, ⟨61, 66, 108, 72⟩, ⟨67, 73, 108, 72⟩, ⟨74, 79, 108, 72⟩, ⟨80, 88, 108, 72⟩, ⟨89, 95, 108, 72⟩, ⟨96, 101, 108, 72⟩, ⟨102, 107, 108, 72⟩, ⟨0, 53, 113, 74⟩, ⟨54, 60, 113, 74⟩, ⟨61, 66, 113, 74⟩, ⟨67, 73, 113, 74⟩, ⟨74, 79, 113, 74⟩] ⟨80, 88, 113, 74⟩ [⟨89, 95, 113, 74⟩, ⟨96, 101, 113, 74⟩, ⟨102, 107, 113, 74⟩, ⟨0, 53, 118, 76⟩, ⟨54, 60, 118, 76⟩, ⟨61, 66, 118, 76⟩, ⟨67, 73, 118, 76⟩, ⟨74, 79, 118, 76⟩, ⟨80, 88, 118, 76⟩, ⟨89, 95, 118, 76⟩, ⟨96, 101, 118, 76⟩, ⟨102, 107, 118, 76⟩] htab (fun z hz => (List.mem_cons.mp hz).elim (fun h => by subst h; exact Or.inl (by decide)) (fun hz => (List.mem_cons.mp hz).elim (fun h => by subst h; exact Or.inl (by decide)) (fun hz => (List.mem_cons.mp hz).elim (fun h => by subst h; exact Or.inl (by decide)) (fun hz => (List.mem_cons.mp hz).elim (fun h => by subst h; exact Or.inl (by decide)) (fun hz => (List.mem_cons.mp hz).elim (fun h => by subst h; exact Or.inl (by decide)) (fun hz => (List.mem_cons.mp hz).elim (fun h => by subst h; exact Or.inr ⟨by decide, _, (hts (.classLink RL 72 "java/lang/UnsupportedOperationException") cl_act_72), hZ.2.1⟩) (fun hz => (List.mem_cons.mp hz).elim (fun h => by subst h; exact Or.inl (by decide)) (fun hz => (List.mem_cons.mp hz).elim (fun h => by subst h; exact Or.inl (by decide)) (fun hz => (List.mem_cons.mp hz).elim (fun h => by subst h; exact Or.inl (by decide)) (fun hz => (List.mem_cons.mp hz).elim (fun h => by subst h; exact Or.inl (by decide)) (fun hz => (List.mem_cons.mp hz).elim (fun h => by subst h; exact Or.inl (by decide)) (fun hz => (List.mem_cons.mp hz).elim (fun h => by subst h; exact Or.inl (by decide)) (fun hz => (List.mem_cons.mp hz).elim (fun h => by subst h; exact Or.inl (by decide)) (fun hz => (List.mem_cons.mp hz).elim (fun h => by subst h; exact Or.inl (by decide)) (fun hz => absurd hz List.not_mem_nil))))))))))))))) (by decide) (by decide) (va_Nw.use rfl hZ.2.2.2.2.2.1) (va_Nw.use rfl (ZC_x2 hZ.1)) hce hcv hcl ?_
      refine lv_astore (lv' := [(5, .ref q), (0, .ref (E 0)), (1, .int (iI 5)), (2, .int (iI a)), (3, .int (iI b)), (4, .int (iI d))]) hx hb dL_act_113 hl (by decide) rfl (fun ls hl => ?_)
      refine z_bipush hx hb dL_act_115 (by decide +kernel) ?_
      rw [hk3, ans_x2]
      exact cn_i hx hb hr hlocks rfl rfl hS hP (by decide) (by decide) dL_act_117
    · have hk3 : kx = 3 := hk9
      rw [hk3, exN_3] at hcl
      refine vx_catch (own := RL) (name := "java/lang/UnsupportedOperationException") (E := "java/lang/UnsupportedOperationException") hown [⟨0, 53, 108, 72⟩, ⟨54, 60, 108, 72⟩, ⟨61, 66, 108, 72⟩, ⟨67, 73, 108, 72⟩, ⟨74, 79, 108, 72⟩] ⟨80, 88, 108, 72⟩ [⟨89, 95, 108, 72⟩, ⟨96, 101, 108, 72⟩, ⟨102, 107, 108, 72⟩, ⟨0, 53, 113, 74⟩, ⟨54, 60, 113, 74⟩, ⟨61, 66, 113, 74⟩, ⟨67, 73, 113, 74⟩, ⟨74, 79, 113, 74⟩, ⟨80, 88, 113, 74⟩, ⟨89, 95, 113, 74⟩, ⟨96, 101, 113, 74⟩, ⟨102, 107, 113, 74⟩, ⟨0, 53, 118, 76⟩, ⟨54, 60, 118, 76⟩, ⟨61, 66, 118, 76⟩, ⟨67, 73, 118, 76⟩, ⟨74, 79, 118, 76⟩, ⟨80, 88, 118, 76⟩, ⟨89, 95, 118, 76⟩, ⟨96, 101, 118, 76⟩, ⟨102, 107, 118, 76⟩] htab (fun z hz => (List.mem_cons.mp hz).elim (fun h => by subst h; exact Or.inl (by decide)) (fun hz => (List.mem_cons.mp hz).elim (fun h => by subst h; exact Or.inl (by decide)) (fun hz => (List.mem_cons.mp hz).elim (fun h => by subst h; exact Or.inl (by decide)) (fun hz => (List.mem_cons.mp hz).elim (fun h => by subst h; exact Or.inl (by decide)) (fun hz => (List.mem_cons.mp hz).elim (fun h => by subst h; exact Or.inl (by decide)) (fun hz => absurd hz List.not_mem_nil)))))) (by decide) (by decide) (hts (.classLink RL 72 "java/lang/UnsupportedOperationException") cl_act_72) (va_Nw.use rfl (ZC_x3 hZ.1)) hce hcv hcl ?_
      refine lv_astore (lv' := [(5, .ref q), (0, .ref (E 0)), (1, .int (iI 5)), (2, .int (iI a)), (3, .int (iI b)), (4, .int (iI d))]) hx hb dL_act_108 hl (by decide) rfl (fun ls hl => ?_)
      refine z_bipush hx hb dL_act_110 (by decide +kernel) ?_
      rw [hk3, ans_x3]
      exact cn_i hx hb hr hlocks rfl rfl hS hP (by decide) (by decide) dL_act_112
set_option maxRecDepth 100000 in
set_option maxHeartbeats 4000000 in
theorem kL_act_6 (l : Launch) (hst : l.stackTraces = false) (D : va_G) (E : Nat → Nat) (cI cC : ClassId) (T : Nat → Nat) (M : Mem) (a b d : Int) (pa : I32 a) (pb : I32 b) (hC : CI M) (hQ : SI M) (hH : HN M) : Cn l yL_act wsL_act 20 400 1 [.ref (E 0), .int (iI 6), .int (iI a), .int (iI b), .int (iI d)] D (TY cI cC) (VC E cI cC) (ZL E cI cC T) M (some (.int (iI (fL_ans (fX8_stain M a b)).1))) (fL_ans (fX8_stain M a b)).2 := by
  obtain ⟨kx, r, M', hE⟩ : ∃ kx r M', fX8_stain M a b = (kx, r, M') := ⟨_, _, _, rfl⟩
  rw [hE]
  refine Cn.ofW (cc := cL_act) (maxL := 6) (ret := (some .int)) (hh := [(0, 53, 108, 72), (54, 60, 108, 72), (61, 66, 108, 72), (67, 73, 108, 72), (74, 79, 108, 72), (80, 88, 108, 72), (89, 95, 108, 72), (96, 101, 108, 72), (102, 107, 108, 72), (0, 53, 113, 74), (54, 60, 113, 74), (61, 66, 113, 74), (67, 73, 113, 74), (74, 79, 113, 74), (80, 88, 113, 74), (89, 95, 113, 74), (96, 101, 113, 74), (102, 107, 113, 74), (0, 53, 118, 76), (54, 60, 118, 76), (61, 66, 118, 76), (67, 73, 118, 76), (74, 79, 118, 76), (80, 88, 118, 76), (89, 95, 118, 76), (96, 101, 118, 76), (102, 107, 118, 76)]) (by decide +kernel) rfl (Nat.le_of_ble_eq_true rfl) ?_
  intro p e s m args below meth c ls hx hb hml hr hown hts hlocks hP hK hD hZ hS htab hl
  have hl : lv_has ls 6 [(0, .ref (E 0)), (1, .int (iI 6)), (2, .int (iI a)), (3, .int (iI b)), (4, .int (iI d))] := hl
  have S0 : CallFix p m c cL_act 6 s args wsL_act RL := ⟨hx, hb, hml, hown, hts⟩
  refine lv_iload_n hx hb dL_act_0 rfl (lv_at hl 1 rfl) ?_
  refine z_table (k0 := 6) (tgt := 89) hx hb dL_act_1 (by decide) rfl (by decide) (by decide) rfl (by decide) ?_
  refine lv_aload_n hx hb dL_act_89 rfl (lv_at hl 0 rfl) ?_
  refine lv_iload_n hx hb dL_act_90 rfl (lv_at hl 2 rfl) ?_
  refine lv_iload_n hx hb dL_act_91 rfl (lv_at hl 3 rfl) ?_
  refine l1_VX (rest := []) (As := [.int (iI a), .int (iI b)]) S0 (kX8_stain l hst D E cI cC T M a b pa pb hC hQ hH kx r M' hE) (cwV 2 hts gL_act_X8_stain rfl rfl rfl (by decide +kernel) ⟨(Nat.le_of_ble_eq_true rfl), (Nat.le_of_ble_eq_true rfl)⟩) (ZC_bl E cI cC T) (l1_Z (ZC_ok E cI cC T M) hS hZ.1) hK hP hD hS rfl hl.1 rfl (Nat.le_of_ble_eq_true rfl) dL_act_92 ⟨by decide, by decide⟩ (fun hk H locs hP hD hS => ?_) (fun hk H locs q ce hP hD hS hce hcv hcl => ?_)
  · rw [hk, ans_0]
    exact cn_i hx hb hr hlocks rfl rfl hS hP (by decide) (by decide) dL_act_95
  · have hk9 := stain_k M a b
    rw [hE] at hk9
    rcases hk9 with hk9 | hk9 | hk9 | hk9
    · exact absurd hk9 hk
    · have hk3 : kx = 1 := hk9
      rw [hk3, exN_1] at hcl
      refine vx_catch (own := RL) (name := "java/lang/IndexOutOfBoundsException") (E := "java/lang/IndexOutOfBoundsException") hown [⟨0, 53, 108, 72⟩, ⟨54, 60, 108, 72⟩, ⟨61, 66, 108, 72⟩, ⟨67, 73, 108, 72⟩, ⟨74, 79, 108, 72⟩, ⟨80, 88, 108, 72⟩, ⟨89, 95, 108, 72⟩, ⟨96, 101, 108, 72⟩, ⟨102, 107, 108, 72⟩, ⟨0, 53, 113, 74⟩, ⟨54, 60, 113, 74⟩, ⟨61, 66, 113, 74⟩, ⟨67, 73, 113, 74⟩, ⟨74, 79, 113, 74⟩, ⟨80, 88, 113, 74⟩, ⟨89, 95, 113, 74⟩, ⟨96, 101, 113, 74⟩, ⟨102, 107, 113, 74⟩, ⟨0, 53, 118, 76⟩, ⟨54, 60, 118, 76⟩, ⟨61, 66, 118, 76⟩, ⟨67, 73, 118, 76⟩, ⟨74, 79, 118, 76⟩, ⟨80, 88, 118, 76⟩] ⟨89, 95, 118, 76⟩ [⟨96, 101, 118, 76⟩, ⟨102, 107, 118, 76⟩] htab (fun z hz => (List.mem_cons.mp hz).elim (fun h => by subst h; exact Or.inl (by decide)) (fun hz => (List.mem_cons.mp hz).elim (fun h => by subst h; exact Or.inl (by decide)) (fun hz => (List.mem_cons.mp hz).elim (fun h => by subst h; exact Or.inl (by decide)) (fun hz => (List.mem_cons.mp hz).elim (fun h => by subst h; exact Or.inl (by decide)) (fun hz => (List.mem_cons.mp hz).elim (fun h => by subst h; exact Or.inl (by decide)) (fun hz => (List.mem_cons.mp hz).elim (fun h => by subst h; exact Or.inl (by decide)) (fun hz => (List.mem_cons.mp hz).elim (fun h => by subst h; exact Or.inr ⟨by decide, _, (hts (.classLink RL 72 "java/lang/UnsupportedOperationException") cl_act_72), hZ.2.2.1⟩) (fun hz => (List.mem_cons.mp hz).elim (fun h => by subst h; exact Or.inl (by decide)) (fun hz => (List.mem_cons.mp hz).elim (fun h => by subst h; exact Or.inl (by decide)) (fun hz => (List.mem_cons.mp hz).elim (fun h => by subst h; exact Or.inl (by decide)) (fun hz => (List.mem_cons.mp hz).elim (fun h => by subst h; exact Or.inl (by decide)) (fun hz => (List.mem_cons.mp hz).elim (fun h => by subst h; exact Or.inl (by decide)) (fun hz => (List.mem_cons.mp hz).elim (fun h => by subst h; exact Or.inl (by decide)) (fun hz => (List.mem_cons.mp hz).elim (fun h => by subst h; exact Or.inl (by decide)) (fun hz => (List.mem_cons.mp hz).elim (fun h => by subst h; exact Or.inl (by decide)) (fun hz => (List.mem_cons.mp hz).elim (fun h => by subst h; exact Or.inr ⟨by decide, _, (va_Nw.use rfl hZ.2.2.2.2.2.1), hZ.2.2.2.1⟩) (fun hz => (List.mem_cons.mp hz).elim (fun h => by subst h; exact Or.inl (by decide)) (fun hz => (List.mem_cons.mp hz).elim (fun h => by subst h; exact Or.inl (by decide)) (fun hz => (List.mem_cons.mp hz).elim (fun h => by subst h; exact Or.inl (by decide)) (fun hz => (List.mem_cons.mp hz).elim (fun h => by subst h; exact Or.inl (by decide)) (fun hz => (List.mem_cons.mp hz).elim (fun h => by subst h; exact Or.inl (by decide)) (fun hz => (List.mem_cons.mp hz).elim (fun h => by subst h; exact Or.inl (by decide)) (fun hz => (List.mem_cons.mp hz).elim (fun h => by subst h; exact Or.inl (by decide)) (fun hz => (List.mem_cons.mp hz).elim (fun h => by subst h; exact Or.inl (by decide)) (fun hz => absurd hz List.not_mem_nil))))))))))))))))))))))))) (by decide) (by decide) (va_Nw.use rfl hZ.2.2.2.2.2.2.1) (va_Nw.use rfl (ZC_x1 hZ.1)) hce hcv hcl ?_
      refine lv_astore (lv' := [(5, .ref q), (0, .ref (E 0)), (1, .int (iI 6)), (2, .int (iI a)), (3, .int (iI b)), (4, .int (iI d))]) hx hb dL_act_118 hl (by decide) rfl (fun ls hl => ?_)
      refine z_bipush hx hb dL_act_120 (by decide +kernel) ?_
      rw [hk3, ans_x1]
      exact cn_i hx hb hr hlocks rfl rfl hS hP (by decide) (by decide) dL_act_122
    · have hk3 : kx = 2 := hk9
      rw [hk3, exN_2] at hcl
      refine vx_catch (own := RL) (name := "java/lang/IllegalArgumentException") (E := "java/lang/IllegalArgumentException") hown [⟨0, 53, 108, 72⟩, ⟨54, 60, 108, 72⟩, ⟨61, 66, 108, 72⟩, ⟨67, 73, 108, 72⟩, ⟨74, 79, 108, 72⟩, ⟨80, 88, 108, 72⟩, ⟨89, 95, 108, 72⟩, ⟨96, 101, 108, 72⟩, ⟨102, 107, 108, 72⟩, ⟨0, 53, 113, 74⟩, ⟨54, 60, 113, 74⟩, ⟨61, 66, 113, 74⟩, ⟨67, 73, 113, 74⟩, ⟨74, 79, 113, 74⟩, ⟨80, 88, 113, 74⟩] ⟨89, 95, 113, 74⟩ [⟨96, 101, 113, 74⟩, ⟨102, 107, 113, 74⟩, ⟨0, 53, 118, 76⟩, ⟨54, 60, 118, 76⟩, ⟨61, 66, 118, 76⟩, ⟨67, 73, 118, 76⟩, ⟨74, 79, 118, 76⟩, ⟨80, 88, 118, 76⟩, ⟨89, 95, 118, 76⟩, ⟨96, 101, 118, 76⟩, ⟨102, 107, 118, 76⟩] htab (fun z hz => (List.mem_cons.mp hz).elim (fun h => by subst h; exact Or.inl (by decide)) (fun hz => (List.mem_cons.mp hz).elim (fun h => by subst h; exact Or.inl (by decide)) (fun hz => (List.mem_cons.mp hz).elim (fun h => by subst h; exact Or.inl (by decide)) (fun hz => (List.mem_cons.mp hz).elim (fun h => by subst h; exact Or.inl (by decide)) (fun hz => (List.mem_cons.mp hz).elim (fun h => by subst h; exact Or.inl (by decide)) (fun hz => (List.mem_cons.mp hz).elim (fun h => by subst h; exact Or.inl (by decide)) (fun hz => (List.mem_cons.mp hz).elim (fun h => by subst h; exact Or.inr ⟨by decide, _, (hts (.classLink RL 72 "java/lang/UnsupportedOperationException") cl_act_72), hZ.2.1⟩) (fun hz => (List.mem_cons.mp hz).elim (fun h => by subst h; exact Or.inl (by decide)) (fun hz => (List.mem_cons.mp hz).elim (fun h => by subst h; exact Or.inl (by decide)) (fun hz => (List.mem_cons.mp hz).elim (fun h => by subst h; exact Or.inl (by decide)) (fun hz => (List.mem_cons.mp hz).elim (fun h => by subst h; exact Or.inl (by decide)) (fun hz => (List.mem_cons.mp hz).elim (fun h => by subst h; exact Or.inl (by decide)) (fun hz => (List.mem_cons.mp hz).elim (fun h => by subst h; exact Or.inl (by decide)) (fun hz => (List.mem_cons.mp hz).elim (fun h => by subst h; exact Or.inl (by decide)) (fun hz => (List.mem_cons.mp hz).elim (fun h => by subst h; exact Or.inl (by decide)) (fun hz => absurd hz List.not_mem_nil)))))))))))))))) (by decide) (by decide) (va_Nw.use rfl hZ.2.2.2.2.2.1) (va_Nw.use rfl (ZC_x2 hZ.1)) hce hcv hcl ?_
      refine lv_astore (lv' := [(5, .ref q), (0, .ref (E 0)), (1, .int (iI 6)), (2, .int (iI a)), (3, .int (iI b)), (4, .int (iI d))]) hx hb dL_act_113 hl (by decide) rfl (fun ls hl => ?_)
      refine z_bipush hx hb dL_act_115 (by decide +kernel) ?_
      rw [hk3, ans_x2]
      exact cn_i hx hb hr hlocks rfl rfl hS hP (by decide) (by decide) dL_act_117
    · have hk3 : kx = 3 := hk9
      rw [hk3, exN_3] at hcl
      refine vx_catch (own := RL) (name := "java/lang/UnsupportedOperationException") (E := "java/lang/UnsupportedOperationException") hown [⟨0, 53, 108, 72⟩, ⟨54, 60, 108, 72⟩, ⟨61, 66, 108, 72⟩, ⟨67, 73, 108, 72⟩, ⟨74, 79, 108, 72⟩, ⟨80, 88, 108, 72⟩] ⟨89, 95, 108, 72⟩ [⟨96, 101, 108, 72⟩, ⟨102, 107, 108, 72⟩, ⟨0, 53, 113, 74⟩, ⟨54, 60, 113, 74⟩, ⟨61, 66, 113, 74⟩, ⟨67, 73, 113, 74⟩, ⟨74, 79, 113, 74⟩, ⟨80, 88, 113, 74⟩, ⟨89, 95, 113, 74⟩, ⟨96, 101, 113, 74⟩, ⟨102, 107, 113, 74⟩, ⟨0, 53, 118, 76⟩, ⟨54, 60, 118, 76⟩, ⟨61, 66, 118, 76⟩, ⟨67, 73, 118, 76⟩, ⟨74, 79, 118, 76⟩, ⟨80, 88, 118, 76⟩, ⟨89, 95, 118, 76⟩, ⟨96, 101, 118, 76⟩, ⟨102, 107, 118, 76⟩] htab (fun z hz => (List.mem_cons.mp hz).elim (fun h => by subst h; exact Or.inl (by decide)) (fun hz => (List.mem_cons.mp hz).elim (fun h => by subst h; exact Or.inl (by decide)) (fun hz => (List.mem_cons.mp hz).elim (fun h => by subst h; exact Or.inl (by decide)) (fun hz => (List.mem_cons.mp hz).elim (fun h => by subst h; exact Or.inl (by decide)) (fun hz => (List.mem_cons.mp hz).elim (fun h => by subst h; exact Or.inl (by decide)) (fun hz => (List.mem_cons.mp hz).elim (fun h => by subst h; exact Or.inl (by decide)) (fun hz => absurd hz List.not_mem_nil))))))) (by decide) (by decide) (hts (.classLink RL 72 "java/lang/UnsupportedOperationException") cl_act_72) (va_Nw.use rfl (ZC_x3 hZ.1)) hce hcv hcl ?_
      refine lv_astore (lv' := [(5, .ref q), (0, .ref (E 0)), (1, .int (iI 6)), (2, .int (iI a)), (3, .int (iI b)), (4, .int (iI d))]) hx hb dL_act_108 hl (by decide) rfl (fun ls hl => ?_)
      refine z_bipush hx hb dL_act_110 (by decide +kernel) ?_
      rw [hk3, ans_x3]
      exact cn_i hx hb hr hlocks rfl rfl hS hP (by decide) (by decide) dL_act_112
set_option maxRecDepth 100000 in
set_option maxHeartbeats 4000000 in
theorem kL_act_7 (l : Launch) (hst : l.stackTraces = false) (D : va_G) (E : Nat → Nat) (cI cC : ClassId) (T : Nat → Nat) (M : Mem) (a b d : Int) (pa : I32 a) (hC : CI M) (hQ : SI M) (hH : HN M) : Cn l yL_act wsL_act 20 400 1 [.ref (E 0), .int (iI 7), .int (iI a), .int (iI b), .int (iI d)] D (TY cI cC) (VC E cI cC) (ZL E cI cC T) M (some (.int (iI (fL_ans (fX8_wash M a)).1))) (fL_ans (fX8_wash M a)).2 := by
  obtain ⟨kx, r, M', hE⟩ : ∃ kx r M', fX8_wash M a = (kx, r, M') := ⟨_, _, _, rfl⟩
  rw [hE]
  refine Cn.ofW (cc := cL_act) (maxL := 6) (ret := (some .int)) (hh := [(0, 53, 108, 72), (54, 60, 108, 72), (61, 66, 108, 72), (67, 73, 108, 72), (74, 79, 108, 72), (80, 88, 108, 72), (89, 95, 108, 72), (96, 101, 108, 72), (102, 107, 108, 72), (0, 53, 113, 74), (54, 60, 113, 74), (61, 66, 113, 74), (67, 73, 113, 74), (74, 79, 113, 74), (80, 88, 113, 74), (89, 95, 113, 74), (96, 101, 113, 74), (102, 107, 113, 74), (0, 53, 118, 76), (54, 60, 118, 76), (61, 66, 118, 76), (67, 73, 118, 76), (74, 79, 118, 76), (80, 88, 118, 76), (89, 95, 118, 76), (96, 101, 118, 76), (102, 107, 118, 76)]) (by decide +kernel) rfl (Nat.le_of_ble_eq_true rfl) ?_
  intro p e s m args below meth c ls hx hb hml hr hown hts hlocks hP hK hD hZ hS htab hl
  have hl : lv_has ls 6 [(0, .ref (E 0)), (1, .int (iI 7)), (2, .int (iI a)), (3, .int (iI b)), (4, .int (iI d))] := hl
  have S0 : CallFix p m c cL_act 6 s args wsL_act RL := ⟨hx, hb, hml, hown, hts⟩
  refine lv_iload_n hx hb dL_act_0 rfl (lv_at hl 1 rfl) ?_
  refine z_table (k0 := 7) (tgt := 96) hx hb dL_act_1 (by decide) rfl (by decide) (by decide) rfl (by decide) ?_
  refine lv_aload_n hx hb dL_act_96 rfl (lv_at hl 0 rfl) ?_
  refine lv_iload_n hx hb dL_act_97 rfl (lv_at hl 2 rfl) ?_
  refine l1_VX (rest := []) (As := [.int (iI a)]) S0 (kX8_wash l hst D E cI cC T M a pa hC hQ hH kx r M' hE) (cwV 1 hts gL_act_X8_wash rfl rfl rfl (by decide +kernel) ⟨(Nat.le_of_ble_eq_true rfl), (Nat.le_of_ble_eq_true rfl)⟩) (ZC_bl E cI cC T) (l1_Z (ZC_ok E cI cC T M) hS hZ.1) hK hP hD hS rfl hl.1 rfl (Nat.le_of_ble_eq_true rfl) dL_act_98 ⟨by decide, by decide⟩ (fun hk H locs hP hD hS => ?_) (fun hk H locs q ce hP hD hS hce hcv hcl => ?_)
  · rw [hk, ans_0]
    exact cn_i hx hb hr hlocks rfl rfl hS hP (by decide) (by decide) dL_act_101
  · have hk9 := wash_k M a
    rw [hE] at hk9
    rcases hk9 with hk9 | hk9 | hk9 | hk9
    · exact absurd hk9 hk
    · have hk3 : kx = 1 := hk9
      rw [hk3, exN_1] at hcl
      refine vx_catch (own := RL) (name := "java/lang/IndexOutOfBoundsException") (E := "java/lang/IndexOutOfBoundsException") hown [⟨0, 53, 108, 72⟩, ⟨54, 60, 108, 72⟩, ⟨61, 66, 108, 72⟩, ⟨67, 73, 108, 72⟩, ⟨74, 79, 108, 72⟩, ⟨80, 88, 108, 72⟩, ⟨89, 95, 108, 72⟩, ⟨96, 101, 108, 72⟩, ⟨102, 107, 108, 72⟩, ⟨0, 53, 113, 74⟩, ⟨54, 60, 113, 74⟩, ⟨61, 66, 113, 74⟩, ⟨67, 73, 113, 74⟩, ⟨74, 79, 113, 74⟩, ⟨80, 88, 113, 74⟩, ⟨89, 95, 113, 74⟩, ⟨96, 101, 113, 74⟩, ⟨102, 107, 113, 74⟩, ⟨0, 53, 118, 76⟩, ⟨54, 60, 118, 76⟩, ⟨61, 66, 118, 76⟩, ⟨67, 73, 118, 76⟩, ⟨74, 79, 118, 76⟩, ⟨80, 88, 118, 76⟩, ⟨89, 95, 118, 76⟩] ⟨96, 101, 118, 76⟩ [⟨102, 107, 118, 76⟩] htab (fun z hz => (List.mem_cons.mp hz).elim (fun h => by subst h; exact Or.inl (by decide)) (fun hz => (List.mem_cons.mp hz).elim (fun h => by subst h; exact Or.inl (by decide)) (fun hz => (List.mem_cons.mp hz).elim (fun h => by subst h; exact Or.inl (by decide)) (fun hz => (List.mem_cons.mp hz).elim (fun h => by subst h; exact Or.inl (by decide)) (fun hz => (List.mem_cons.mp hz).elim (fun h => by subst h; exact Or.inl (by decide)) (fun hz => (List.mem_cons.mp hz).elim (fun h => by subst h; exact Or.inl (by decide)) (fun hz => (List.mem_cons.mp hz).elim (fun h => by subst h; exact Or.inl (by decide)) (fun hz => (List.mem_cons.mp hz).elim (fun h => by subst h; exact Or.inr ⟨by decide, _, (hts (.classLink RL 72 "java/lang/UnsupportedOperationException") cl_act_72), hZ.2.2.1⟩) (fun hz => (List.mem_cons.mp hz).elim (fun h => by subst h; exact Or.inl (by decide)) (fun hz => (List.mem_cons.mp hz).elim (fun h => by subst h; exact Or.inl (by decide)) (fun hz => (List.mem_cons.mp hz).elim (fun h => by subst h; exact Or.inl (by decide)) (fun hz => (List.mem_cons.mp hz).elim (fun h => by subst h; exact Or.inl (by decide)) (fun hz => (List.mem_cons.mp hz).elim (fun h => by subst h; exact Or.inl (by decide)) (fun hz => (List.mem_cons.mp hz).elim (fun h => by subst h; exact Or.inl (by decide)) (fun hz => (List.mem_cons.mp hz).elim (fun h => by subst h; exact Or.inl (by decide)) (fun hz => (List.mem_cons.mp hz).elim (fun h => by subst h; exact Or.inl (by decide)) (fun hz => (List.mem_cons.mp hz).elim (fun h => by subst h; exact Or.inr ⟨by decide, _, (va_Nw.use rfl hZ.2.2.2.2.2.1), hZ.2.2.2.1⟩) (fun hz => (List.mem_cons.mp hz).elim (fun h => by subst h; exact Or.inl (by decide)) (fun hz => (List.mem_cons.mp hz).elim (fun h => by subst h; exact Or.inl (by decide)) (fun hz => (List.mem_cons.mp hz).elim (fun h => by subst h; exact Or.inl (by decide)) (fun hz => (List.mem_cons.mp hz).elim (fun h => by subst h; exact Or.inl (by decide)) (fun hz => (List.mem_cons.mp hz).elim (fun h => by subst h; exact Or.inl (by decide)) (fun hz => (List.mem_cons.mp hz).elim (fun h => by subst h; exact Or.inl (by decide)) (fun hz => (List.mem_cons.mp hz).elim (fun h => by subst h; exact Or.inl (by decide)) (fun hz => (List.mem_cons.mp hz).elim (fun h => by subst h; exact Or.inl (by decide)) (fun hz => absurd hz List.not_mem_nil)))))))))))))))))))))))))) (by decide) (by decide) (va_Nw.use rfl hZ.2.2.2.2.2.2.1) (va_Nw.use rfl (ZC_x1 hZ.1)) hce hcv hcl ?_
      refine lv_astore (lv' := [(5, .ref q), (0, .ref (E 0)), (1, .int (iI 7)), (2, .int (iI a)), (3, .int (iI b)), (4, .int (iI d))]) hx hb dL_act_118 hl (by decide) rfl (fun ls hl => ?_)
      refine z_bipush hx hb dL_act_120 (by decide +kernel) ?_
      rw [hk3, ans_x1]
      exact cn_i hx hb hr hlocks rfl rfl hS hP (by decide) (by decide) dL_act_122
    · have hk3 : kx = 2 := hk9
      rw [hk3, exN_2] at hcl
      refine vx_catch (own := RL) (name := "java/lang/IllegalArgumentException") (E := "java/lang/IllegalArgumentException") hown [⟨0, 53, 108, 72⟩, ⟨54, 60, 108, 72⟩, ⟨61, 66, 108, 72⟩, ⟨67, 73, 108, 72⟩, ⟨74, 79, 108, 72⟩, ⟨80, 88, 108, 72⟩, ⟨89, 95, 108, 72⟩, ⟨96, 101, 108, 72⟩, ⟨102, 107, 108, 72⟩, ⟨0, 53, 113, 74⟩, ⟨54, 60, 113, 74⟩, ⟨61, 66, 113, 74⟩, ⟨67, 73, 113, 74⟩, ⟨74, 79, 113, 74⟩, ⟨80, 88, 113, 74⟩, ⟨89, 95, 113, 74⟩] ⟨96, 101, 113, 74⟩ [⟨102, 107, 113, 74⟩, ⟨0, 53, 118, 76⟩, ⟨54, 60, 118, 76⟩, ⟨61, 66, 118, 76⟩, ⟨67, 73, 118, 76⟩, ⟨74, 79, 118, 76⟩, ⟨80, 88, 118, 76⟩, ⟨89, 95, 118, 76⟩, ⟨96, 101, 118, 76⟩, ⟨102, 107, 118, 76⟩] htab (fun z hz => (List.mem_cons.mp hz).elim (fun h => by subst h; exact Or.inl (by decide)) (fun hz => (List.mem_cons.mp hz).elim (fun h => by subst h; exact Or.inl (by decide)) (fun hz => (List.mem_cons.mp hz).elim (fun h => by subst h; exact Or.inl (by decide)) (fun hz => (List.mem_cons.mp hz).elim (fun h => by subst h; exact Or.inl (by decide)) (fun hz => (List.mem_cons.mp hz).elim (fun h => by subst h; exact Or.inl (by decide)) (fun hz => (List.mem_cons.mp hz).elim (fun h => by subst h; exact Or.inl (by decide)) (fun hz => (List.mem_cons.mp hz).elim (fun h => by subst h; exact Or.inl (by decide)) (fun hz => (List.mem_cons.mp hz).elim (fun h => by subst h; exact Or.inr ⟨by decide, _, (hts (.classLink RL 72 "java/lang/UnsupportedOperationException") cl_act_72), hZ.2.1⟩) (fun hz => (List.mem_cons.mp hz).elim (fun h => by subst h; exact Or.inl (by decide)) (fun hz => (List.mem_cons.mp hz).elim (fun h => by subst h; exact Or.inl (by decide)) (fun hz => (List.mem_cons.mp hz).elim (fun h => by subst h; exact Or.inl (by decide)) (fun hz => (List.mem_cons.mp hz).elim (fun h => by subst h; exact Or.inl (by decide)) (fun hz => (List.mem_cons.mp hz).elim (fun h => by subst h; exact Or.inl (by decide)) (fun hz => (List.mem_cons.mp hz).elim (fun h => by subst h; exact Or.inl (by decide)) (fun hz => (List.mem_cons.mp hz).elim (fun h => by subst h; exact Or.inl (by decide)) (fun hz => (List.mem_cons.mp hz).elim (fun h => by subst h; exact Or.inl (by decide)) (fun hz => absurd hz List.not_mem_nil))))))))))))))))) (by decide) (by decide) (va_Nw.use rfl hZ.2.2.2.2.2.1) (va_Nw.use rfl (ZC_x2 hZ.1)) hce hcv hcl ?_
      refine lv_astore (lv' := [(5, .ref q), (0, .ref (E 0)), (1, .int (iI 7)), (2, .int (iI a)), (3, .int (iI b)), (4, .int (iI d))]) hx hb dL_act_113 hl (by decide) rfl (fun ls hl => ?_)
      refine z_bipush hx hb dL_act_115 (by decide +kernel) ?_
      rw [hk3, ans_x2]
      exact cn_i hx hb hr hlocks rfl rfl hS hP (by decide) (by decide) dL_act_117
    · have hk3 : kx = 3 := hk9
      rw [hk3, exN_3] at hcl
      refine vx_catch (own := RL) (name := "java/lang/UnsupportedOperationException") (E := "java/lang/UnsupportedOperationException") hown [⟨0, 53, 108, 72⟩, ⟨54, 60, 108, 72⟩, ⟨61, 66, 108, 72⟩, ⟨67, 73, 108, 72⟩, ⟨74, 79, 108, 72⟩, ⟨80, 88, 108, 72⟩, ⟨89, 95, 108, 72⟩] ⟨96, 101, 108, 72⟩ [⟨102, 107, 108, 72⟩, ⟨0, 53, 113, 74⟩, ⟨54, 60, 113, 74⟩, ⟨61, 66, 113, 74⟩, ⟨67, 73, 113, 74⟩, ⟨74, 79, 113, 74⟩, ⟨80, 88, 113, 74⟩, ⟨89, 95, 113, 74⟩, ⟨96, 101, 113, 74⟩, ⟨102, 107, 113, 74⟩, ⟨0, 53, 118, 76⟩, ⟨54, 60, 118, 76⟩, ⟨61, 66, 118, 76⟩, ⟨67, 73, 118, 76⟩, ⟨74, 79, 118, 76⟩, ⟨80, 88, 118, 76⟩, ⟨89, 95, 118, 76⟩, ⟨96, 101, 118, 76⟩, ⟨102, 107, 118, 76⟩] htab (fun z hz => (List.mem_cons.mp hz).elim (fun h => by subst h; exact Or.inl (by decide)) (fun hz => (List.mem_cons.mp hz).elim (fun h => by subst h; exact Or.inl (by decide)) (fun hz => (List.mem_cons.mp hz).elim (fun h => by subst h; exact Or.inl (by decide)) (fun hz => (List.mem_cons.mp hz).elim (fun h => by subst h; exact Or.inl (by decide)) (fun hz => (List.mem_cons.mp hz).elim (fun h => by subst h; exact Or.inl (by decide)) (fun hz => (List.mem_cons.mp hz).elim (fun h => by subst h; exact Or.inl (by decide)) (fun hz => (List.mem_cons.mp hz).elim (fun h => by subst h; exact Or.inl (by decide)) (fun hz => absurd hz List.not_mem_nil)))))))) (by decide) (by decide) (hts (.classLink RL 72 "java/lang/UnsupportedOperationException") cl_act_72) (va_Nw.use rfl (ZC_x3 hZ.1)) hce hcv hcl ?_
      refine lv_astore (lv' := [(5, .ref q), (0, .ref (E 0)), (1, .int (iI 7)), (2, .int (iI a)), (3, .int (iI b)), (4, .int (iI d))]) hx hb dL_act_108 hl (by decide) rfl (fun ls hl => ?_)
      refine z_bipush hx hb dL_act_110 (by decide +kernel) ?_
      rw [hk3, ans_x3]
      exact cn_i hx hb hr hlocks rfl rfl hS hP (by decide) (by decide) dL_act_112
set_option maxRecDepth 100000 in
set_option maxHeartbeats 4000000 in
theorem kL_act_8 (l : Launch) (hst : l.stackTraces = false) (D : va_G) (E : Nat → Nat) (cI cC : ClassId) (T : Nat → Nat) (M : Mem) (a b d : Int) (pa : I32 a) (hC : CI M) (hQ : SI M) (hH : HN M) : Cn l yL_act wsL_act 20 400 1 [.ref (E 0), .int (iI 8), .int (iI a), .int (iI b), .int (iI d)] D (TY cI cC) (VC E cI cC) (ZL E cI cC T) M (some (.int (iI (fL_ans (fX8_host M a)).1))) (fL_ans (fX8_host M a)).2 := by
  obtain ⟨kx, r, M', hE⟩ : ∃ kx r M', fX8_host M a = (kx, r, M') := ⟨_, _, _, rfl⟩
  rw [hE]
  refine Cn.ofW (cc := cL_act) (maxL := 6) (ret := (some .int)) (hh := [(0, 53, 108, 72), (54, 60, 108, 72), (61, 66, 108, 72), (67, 73, 108, 72), (74, 79, 108, 72), (80, 88, 108, 72), (89, 95, 108, 72), (96, 101, 108, 72), (102, 107, 108, 72), (0, 53, 113, 74), (54, 60, 113, 74), (61, 66, 113, 74), (67, 73, 113, 74), (74, 79, 113, 74), (80, 88, 113, 74), (89, 95, 113, 74), (96, 101, 113, 74), (102, 107, 113, 74), (0, 53, 118, 76), (54, 60, 118, 76), (61, 66, 118, 76), (67, 73, 118, 76), (74, 79, 118, 76), (80, 88, 118, 76), (89, 95, 118, 76), (96, 101, 118, 76), (102, 107, 118, 76)]) (by decide +kernel) rfl (Nat.le_of_ble_eq_true rfl) ?_
  intro p e s m args below meth c ls hx hb hml hr hown hts hlocks hP hK hD hZ hS htab hl
  have hl : lv_has ls 6 [(0, .ref (E 0)), (1, .int (iI 8)), (2, .int (iI a)), (3, .int (iI b)), (4, .int (iI d))] := hl
  have S0 : CallFix p m c cL_act 6 s args wsL_act RL := ⟨hx, hb, hml, hown, hts⟩
  refine lv_iload_n hx hb dL_act_0 rfl (lv_at hl 1 rfl) ?_
  refine z_tableD (tgt := 102) hx hb dL_act_1 (by decide) (Or.inr (by decide)) (by decide) ?_
  refine lv_aload_n hx hb dL_act_102 rfl (lv_at hl 0 rfl) ?_
  refine lv_iload_n hx hb dL_act_103 rfl (lv_at hl 2 rfl) ?_
  refine l1_VX (rest := []) (As := [.int (iI a)]) S0 (kX8_host l hst D E cI cC T M a pa hC hQ hH kx r M' hE) (cwV 1 hts gL_act_X8_host rfl rfl rfl (by decide +kernel) ⟨(Nat.le_of_ble_eq_true rfl), (Nat.le_of_ble_eq_true rfl)⟩) (ZC_bl E cI cC T) (l1_Z (ZC_ok E cI cC T M) hS hZ.1) hK hP hD hS rfl hl.1 rfl (Nat.le_of_ble_eq_true rfl) dL_act_104 ⟨by decide, by decide⟩ (fun hk H locs hP hD hS => ?_) (fun hk H locs q ce hP hD hS hce hcv hcl => ?_)
  · rw [hk, ans_0]
    exact cn_i hx hb hr hlocks rfl rfl hS hP (by decide) (by decide) dL_act_107
  · have hk9 := host_k M a
    rw [hE] at hk9
    rcases hk9 with hk9 | hk9 | hk9 | hk9
    · exact absurd hk9 hk
    · have hk3 : kx = 1 := hk9
      rw [hk3, exN_1] at hcl
      refine vx_catch (own := RL) (name := "java/lang/IndexOutOfBoundsException") (E := "java/lang/IndexOutOfBoundsException") hown [⟨0, 53, 108, 72⟩, ⟨54, 60, 108, 72⟩, ⟨61, 66, 108, 72⟩, ⟨67, 73, 108, 72⟩, ⟨74, 79, 108, 72⟩, ⟨80, 88, 108, 72⟩, ⟨89, 95, 108, 72⟩, ⟨96, 101, 108, 72⟩, ⟨102, 107, 108, 72⟩, ⟨0, 53, 113, 74⟩, ⟨54, 60, 113, 74⟩, ⟨61, 66, 113, 74⟩, ⟨67, 73, 113, 74⟩, ⟨74, 79, 113, 74⟩, ⟨80, 88, 113, 74⟩, ⟨89, 95, 113, 74⟩, ⟨96, 101, 113, 74⟩, ⟨102, 107, 113, 74⟩, ⟨0, 53, 118, 76⟩, ⟨54, 60, 118, 76⟩, ⟨61, 66, 118, 76⟩, ⟨67, 73, 118, 76⟩, ⟨74, 79, 118, 76⟩, ⟨80, 88, 118, 76⟩, ⟨89, 95, 118, 76⟩, ⟨96, 101, 118, 76⟩] ⟨102, 107, 118, 76⟩ [] htab (fun z hz => (List.mem_cons.mp hz).elim (fun h => by subst h; exact Or.inl (by decide)) (fun hz => (List.mem_cons.mp hz).elim (fun h => by subst h; exact Or.inl (by decide)) (fun hz => (List.mem_cons.mp hz).elim (fun h => by subst h; exact Or.inl (by decide)) (fun hz => (List.mem_cons.mp hz).elim (fun h => by subst h; exact Or.inl (by decide)) (fun hz => (List.mem_cons.mp hz).elim (fun h => by subst h; exact Or.inl (by decide)) (fun hz => (List.mem_cons.mp hz).elim (fun h => by subst h; exact Or.inl (by decide)) (fun hz => (List.mem_cons.mp hz).elim (fun h => by subst h; exact Or.inl (by decide)) (fun hz => (List.mem_cons.mp hz).elim (fun h => by subst h; exact Or.inl (by decide)) (fun hz => (List.mem_cons.mp hz).elim (fun h => by subst h; exact Or.inr ⟨by decide, _, (hts (.classLink RL 72 "java/lang/UnsupportedOperationException") cl_act_72), hZ.2.2.1⟩) (fun hz => (List.mem_cons.mp hz).elim (fun h => by subst h; exact Or.inl (by decide)) (fun hz => (List.mem_cons.mp hz).elim (fun h => by subst h; exact Or.inl (by decide)) (fun hz => (List.mem_cons.mp hz).elim (fun h => by subst h; exact Or.inl (by decide)) (fun hz => (List.mem_cons.mp hz).elim (fun h => by subst h; exact Or.inl (by decide)) (fun hz => (List.mem_cons.mp hz).elim (fun h => by subst h; exact Or.inl (by decide)) (fun hz => (List.mem_cons.mp hz).elim (fun h => by subst h; exact Or.inl (by decide)) (fun hz => (List.mem_cons.mp hz).elim (fun h => by subst h; exact Or.inl (by decide)) (fun hz => (List.mem_cons.mp hz).elim (fun h => by subst h; exact Or.inl (by decide)) (fun hz => (List.mem_cons.mp hz).elim (fun h => by subst h; exact Or.inr ⟨by decide, _, (va_Nw.use rfl hZ.2.2.2.2.2.1), hZ.2.2.2.1⟩) (fun hz => (List.mem_cons.mp hz).elim (fun h => by subst h; exact Or.inl (by decide)) (fun hz => (List.mem_cons.mp hz).elim (fun h => by subst h; exact Or.inl (by decide)) (fun hz => (List.mem_cons.mp hz).elim (fun h => by subst h; exact Or.inl (by decide)) (fun hz => (List.mem_cons.mp hz).elim (fun h => by subst h; exact Or.inl (by decide)) (fun hz => (List.mem_cons.mp hz).elim (fun h => by subst h; exact Or.inl (by decide)) (fun hz => (List.mem_cons.mp hz).elim (fun h => by subst h; exact Or.inl (by decide)) (fun hz => (List.mem_cons.mp hz).elim (fun h => by subst h; exact Or.inl (by decide)) (fun hz => (List.mem_cons.mp hz).elim (fun h => by subst h; exact Or.inl (by decide)) (fun hz => absurd hz List.not_mem_nil))))))))))))))))))))))))))) (by decide) (by decide) (va_Nw.use rfl hZ.2.2.2.2.2.2.1) (va_Nw.use rfl (ZC_x1 hZ.1)) hce hcv hcl ?_
      refine lv_astore (lv' := [(5, .ref q), (0, .ref (E 0)), (1, .int (iI 8)), (2, .int (iI a)), (3, .int (iI b)), (4, .int (iI d))]) hx hb dL_act_118 hl (by decide) rfl (fun ls hl => ?_)
      refine z_bipush hx hb dL_act_120 (by decide +kernel) ?_
      rw [hk3, ans_x1]
      exact cn_i hx hb hr hlocks rfl rfl hS hP (by decide) (by decide) dL_act_122
    · have hk3 : kx = 2 := hk9
      rw [hk3, exN_2] at hcl
      refine vx_catch (own := RL) (name := "java/lang/IllegalArgumentException") (E := "java/lang/IllegalArgumentException") hown [⟨0, 53, 108, 72⟩, ⟨54, 60, 108, 72⟩, ⟨61, 66, 108, 72⟩, ⟨67, 73, 108, 72⟩, ⟨74, 79, 108, 72⟩, ⟨80, 88, 108, 72⟩, ⟨89, 95, 108, 72⟩, ⟨96, 101, 108, 72⟩, ⟨102, 107, 108, 72⟩, ⟨0, 53, 113, 74⟩, ⟨54, 60, 113, 74⟩, ⟨61, 66, 113, 74⟩, ⟨67, 73, 113, 74⟩, ⟨74, 79, 113, 74⟩, ⟨80, 88, 113, 74⟩, ⟨89, 95, 113, 74⟩, ⟨96, 101, 113, 74⟩] ⟨102, 107, 113, 74⟩ [⟨0, 53, 118, 76⟩, ⟨54, 60, 118, 76⟩, ⟨61, 66, 118, 76⟩, ⟨67, 73, 118, 76⟩, ⟨74, 79, 118, 76⟩, ⟨80, 88, 118, 76⟩, ⟨89, 95, 118, 76⟩, ⟨96, 101, 118, 76⟩, ⟨102, 107, 118, 76⟩] htab (fun z hz => (List.mem_cons.mp hz).elim (fun h => by subst h; exact Or.inl (by decide)) (fun hz => (List.mem_cons.mp hz).elim (fun h => by subst h; exact Or.inl (by decide)) (fun hz => (List.mem_cons.mp hz).elim (fun h => by subst h; exact Or.inl (by decide)) (fun hz => (List.mem_cons.mp hz).elim (fun h => by subst h; exact Or.inl (by decide)) (fun hz => (List.mem_cons.mp hz).elim (fun h => by subst h; exact Or.inl (by decide)) (fun hz => (List.mem_cons.mp hz).elim (fun h => by subst h; exact Or.inl (by decide)) (fun hz => (List.mem_cons.mp hz).elim (fun h => by subst h; exact Or.inl (by decide)) (fun hz => (List.mem_cons.mp hz).elim (fun h => by subst h; exact Or.inl (by decide)) (fun hz => (List.mem_cons.mp hz).elim (fun h => by subst h; exact Or.inr ⟨by decide, _, (hts (.classLink RL 72 "java/lang/UnsupportedOperationException") cl_act_72), hZ.2.1⟩) (fun hz => (List.mem_cons.mp hz).elim (fun h => by subst h; exact Or.inl (by decide)) (fun hz => (List.mem_cons.mp hz).elim (fun h => by subst h; exact Or.inl (by decide)) (fun hz => (List.mem_cons.mp hz).elim (fun h => by subst h; exact Or.inl (by decide)) (fun hz => (List.mem_cons.mp hz).elim (fun h => by subst h; exact Or.inl (by decide)) (fun hz => (List.mem_cons.mp hz).elim (fun h => by subst h; exact Or.inl (by decide)) (fun hz => (List.mem_cons.mp hz).elim (fun h => by subst h; exact Or.inl (by decide)) (fun hz => (List.mem_cons.mp hz).elim (fun h => by subst h; exact Or.inl (by decide)) (fun hz => (List.mem_cons.mp hz).elim (fun h => by subst h; exact Or.inl (by decide)) (fun hz => absurd hz List.not_mem_nil)))))))))))))))))) (by decide) (by decide) (va_Nw.use rfl hZ.2.2.2.2.2.1) (va_Nw.use rfl (ZC_x2 hZ.1)) hce hcv hcl ?_
      refine lv_astore (lv' := [(5, .ref q), (0, .ref (E 0)), (1, .int (iI 8)), (2, .int (iI a)), (3, .int (iI b)), (4, .int (iI d))]) hx hb dL_act_113 hl (by decide) rfl (fun ls hl => ?_)
      refine z_bipush hx hb dL_act_115 (by decide +kernel) ?_
      rw [hk3, ans_x2]
      exact cn_i hx hb hr hlocks rfl rfl hS hP (by decide) (by decide) dL_act_117
    · have hk3 : kx = 3 := hk9
      rw [hk3, exN_3] at hcl
      refine vx_catch (own := RL) (name := "java/lang/UnsupportedOperationException") (E := "java/lang/UnsupportedOperationException") hown [⟨0, 53, 108, 72⟩, ⟨54, 60, 108, 72⟩, ⟨61, 66, 108, 72⟩, ⟨67, 73, 108, 72⟩, ⟨74, 79, 108, 72⟩, ⟨80, 88, 108, 72⟩, ⟨89, 95, 108, 72⟩, ⟨96, 101, 108, 72⟩] ⟨102, 107, 108, 72⟩ [⟨0, 53, 113, 74⟩, ⟨54, 60, 113, 74⟩, ⟨61, 66, 113, 74⟩, ⟨67, 73, 113, 74⟩, ⟨74, 79, 113, 74⟩, ⟨80, 88, 113, 74⟩, ⟨89, 95, 113, 74⟩, ⟨96, 101, 113, 74⟩, ⟨102, 107, 113, 74⟩, ⟨0, 53, 118, 76⟩, ⟨54, 60, 118, 76⟩, ⟨61, 66, 118, 76⟩, ⟨67, 73, 118, 76⟩, ⟨74, 79, 118, 76⟩, ⟨80, 88, 118, 76⟩, ⟨89, 95, 118, 76⟩, ⟨96, 101, 118, 76⟩, ⟨102, 107, 118, 76⟩] htab (fun z hz => (List.mem_cons.mp hz).elim (fun h => by subst h; exact Or.inl (by decide)) (fun hz => (List.mem_cons.mp hz).elim (fun h => by subst h; exact Or.inl (by decide)) (fun hz => (List.mem_cons.mp hz).elim (fun h => by subst h; exact Or.inl (by decide)) (fun hz => (List.mem_cons.mp hz).elim (fun h => by subst h; exact Or.inl (by decide)) (fun hz => (List.mem_cons.mp hz).elim (fun h => by subst h; exact Or.inl (by decide)) (fun hz => (List.mem_cons.mp hz).elim (fun h => by subst h; exact Or.inl (by decide)) (fun hz => (List.mem_cons.mp hz).elim (fun h => by subst h; exact Or.inl (by decide)) (fun hz => (List.mem_cons.mp hz).elim (fun h => by subst h; exact Or.inl (by decide)) (fun hz => absurd hz List.not_mem_nil))))))))) (by decide) (by decide) (hts (.classLink RL 72 "java/lang/UnsupportedOperationException") cl_act_72) (va_Nw.use rfl (ZC_x3 hZ.1)) hce hcv hcl ?_
      refine lv_astore (lv' := [(5, .ref q), (0, .ref (E 0)), (1, .int (iI 8)), (2, .int (iI a)), (3, .int (iI b)), (4, .int (iI d))]) hx hb dL_act_108 hl (by decide) rfl (fun ls hl => ?_)
      refine z_bipush hx hb dL_act_110 (by decide +kernel) ?_
      rw [hk3, ans_x3]
      exact cn_i hx hb hr hlocks rfl rfl hS hP (by decide) (by decide) dL_act_112
theorem cl_cause : Cond.classLink RL 290 "java/util/NoSuchElementException" ∈ wsL_cause := by decide +kernel
theorem cl_runs_74 : Cond.classLink RL 74 "java/lang/IllegalArgumentException" ∈ wsL_runs := by decide +kernel
theorem refusal_k (M : Mem) (a b : Int) : (fX8_refusal M a b).1 = 0 ∨ (fX8_refusal M a b).1 = 4 := by
  unfold fX8_refusal
  (repeat' split) <;> first | exact Or.inl rfl | exact Or.inr rfl
def fL_c1 (x : Int × Int) : Int := if x.1 = 0 then x.2 else -1
theorem c1_0 (r : Int) : fL_c1 (0, r) = r := by simp [fL_c1]
theorem c1_4 (r : Int) : fL_c1 (4, r) = -1 := by simp [fL_c1]
def fL_cause (M : Mem) : Int := fL_c1 (fX8_refusal M 1 0)
set_option maxRecDepth 100000 in
set_option maxHeartbeats 4000000 in
theorem kL_cause (l : Launch) (hst : l.stackTraces = false) (D : va_G) (E : Nat → Nat) (cI cC : ClassId) (T : Nat → Nat) (M : Mem) (h18 : 0 ≤ M 18 0 ∧ M 18 0 ≤ 1000) (h19 : 0 ≤ M 19 0 ∧ M 19 0 ≤ 1000) : Cn l yL_cause wsL_cause 20 400 1 [.ref (E 0)] D (TY cI cC) (VC E cI cC) (ZL E cI cC T) M (some (.int (iI (fL_cause M)))) M := by
  rw [fL_cause]
  have hk9 := refusal_k M 1 0
  obtain ⟨kx, r, hE⟩ : ∃ kx r, fX8_refusal M 1 0 = (kx, r) := ⟨_, _, rfl⟩
  rw [hE] at hk9 ⊢
  refine Cn.ofW (cc := cL_cause) (maxL := 2) (ret := (some .int)) (hh := [(0, 6, 7, 290)]) (by decide +kernel) rfl (Nat.le_of_ble_eq_true rfl) ?_
  intro p e s m args below meth c ls hx hb hml hr hown hts hlocks hP hK hD hZ hS htab hl
  have hl : lv_has ls 2 [(0, .ref (E 0))] := hl
  have S0 : CallFix p m c cL_cause 2 s args wsL_cause RL := ⟨hx, hb, hml, hown, hts⟩
  refine lv_aload_n hx hb dL_cause_0 rfl (lv_at hl 0 rfl) ?_
  refine z_iconst hx hb dL_cause_1 ?_
  refine z_iconst hx hb dL_cause_2 ?_
  refine l1_VX (rest := []) (As := [.int (iI 1), .int (iI 0)]) S0 (kX8_refusal l hst D E cI cC T M 1 0 (by decide) (by decide) h18 h19 kx r hE) (cwV 2 hts gL_cause_X8_refusal rfl rfl rfl (by decide +kernel) ⟨(Nat.le_of_ble_eq_true rfl), (Nat.le_of_ble_eq_true rfl)⟩) (ZC_bl E cI cC T) (l1_Z (ZC_ok E cI cC T M) hS hZ.1) hK hP hD hS rfl hl.1 rfl (Nat.le_of_ble_eq_true rfl) dL_cause_3 ⟨by decide, by decide⟩ (fun hk H locs hP hD hS => ?_) (fun hk H locs q ce hP hD hS hce hcv hcl => ?_)
  · rw [hk, c1_0]
    exact cn_i hx hb hr hlocks rfl rfl hS hP (by decide) (by decide) dL_cause_6
  · rcases hk9 with hk9 | hk9
    · exact absurd hk9 hk
    · have hk3 : kx = 4 := hk9
      rw [hk3, exN_4] at hcl
      refine vx_catch (own := RL) (name := "java/util/NoSuchElementException") (E := "java/util/NoSuchElementException") hown [] ⟨0, 6, 7, 290⟩ [] htab (fun z hz => absurd hz List.not_mem_nil) (by decide) (by decide) (hts (.classLink RL 290 "java/util/NoSuchElementException") cl_cause) (va_Nw.use rfl (ZC_x4 hZ.1)) hce hcv hcl ?_
      refine lv_astore_n (lv' := [(1, .ref q), (0, .ref (E 0))]) hx hb dL_cause_7 rfl hl (by decide) rfl (fun ls hl => ?_)
      refine z_iconst hx hb dL_cause_8 ?_
      rw [hk3, c1_4]
      exact cn_i hx hb hr hlocks rfl rfl hS hP (by decide) (by decide) dL_cause_9
def fL_r1 (x : Int × Int × Mem) : Int := if x.1 = 0 then x.2.1 else if x.1 = 2 then -1 else -2
theorem r1_0 (r : Int) (M : Mem) : fL_r1 (0, r, M) = r := by simp [fL_r1]
theorem r1_2 (r : Int) (M : Mem) : fL_r1 (2, r, M) = -1 := by simp [fL_r1]
theorem r1_3 (r : Int) (M : Mem) : fL_r1 (3, r, M) = -2 := by simp [fL_r1]
def fL_runs (M : Mem) : Int := fL_r1 (fX8_read M)
theorem readL_k (M : Mem) : ∀ (k : Nat) (Mx : Mem) (v n s co : Int), (fX8_read_L1 M k Mx v n s co).1 = 0 ∨ (fX8_read_L1 M k Mx v n s co).1 = 3 := by
  intro k
  induction k with
  | zero => intro Mx v n s co; exact Or.inl rfl
  | succ k ih =>
    intro Mx v n s co
    rw [fX8_read_L1]
    (repeat' split) <;> first | exact Or.inl rfl | exact Or.inr rfl | exact ih _ _ _ _ _
theorem read_k (M : Mem) : (fX8_read M).1 = 0 ∨ (fX8_read M).1 = 2 ∨ (fX8_read M).1 = 3 := by
  unfold fX8_read
  split
  · rcases readL_k M 62 (fX6_copyTo_b M) 0 0 0 (fX7_commandAt (fX6_copyTo_b M) 0) with h | h
    · exact Or.inl h
    · exact Or.inr (Or.inr h)
  · exact Or.inr (Or.inl rfl)
set_option maxRecDepth 100000 in
set_option maxHeartbeats 4000000 in
theorem kL_runs (l : Launch) (hst : l.stackTraces = false) (D : va_G) (E : Nat → Nat) (cI cC : ClassId) (T : Nat → Nat) (M : Mem) (hC : CI M) (hQ : SI M) (hT : TI M) (hH : HN M) : Cn l yL_runs wsL_runs 20 400 1 [.ref (E 0)] D (TY cI cC) (VC E cI cC) (ZL E cI cC T) M (some (.int (iI (fL_runs M)))) (fX8_read M).2.2 := by
  rw [fL_runs]
  have hk9 := read_k M
  obtain ⟨kx, r, M', hE⟩ : ∃ kx r M', fX8_read M = (kx, r, M') := ⟨_, _, _, rfl⟩
  rw [hE] at hk9 ⊢
  refine Cn.ofW (cc := cL_runs) (maxL := 2) (ret := (some .int)) (hh := [(0, 4, 5, 74), (0, 4, 8, 72)]) (by decide +kernel) rfl (Nat.le_of_ble_eq_true rfl) ?_
  intro p e s m args below meth c ls hx hb hml hr hown hts hlocks hP hK hD hZ hS htab hl
  have hl : lv_has ls 2 [(0, .ref (E 0))] := hl
  have S0 : CallFix p m c cL_runs 2 s args wsL_runs RL := ⟨hx, hb, hml, hown, hts⟩
  refine lv_aload_n hx hb dL_runs_0 rfl (lv_at hl 0 rfl) ?_
  refine l1_VX (rest := []) (As := []) S0 (kX8_read l hst D E cI cC T M hC hQ hT hH kx r M' hE) (cwV 0 hts gL_runs_X8_read rfl rfl rfl (by decide +kernel) ⟨(Nat.le_of_ble_eq_true rfl), (Nat.le_of_ble_eq_true rfl)⟩) (ZC_bl E cI cC T) (l1_Z (ZC_ok E cI cC T M) hS hZ.1) hK hP hD hS rfl hl.1 rfl (Nat.le_of_ble_eq_true rfl) dL_runs_1 ⟨by decide, by decide⟩ (fun hk H locs hP hD hS => ?_) (fun hk H locs q ce hP hD hS hce hcv hcl => ?_)
  · rw [hk, r1_0]
    exact cn_i hx hb hr hlocks rfl rfl hS hP (by decide) (by decide) dL_runs_4
  · rcases hk9 with hk9 | hk9 | hk9
    · exact absurd hk9 hk
    · have hk3 : kx = 2 := hk9
      rw [hk3, exN_2] at hcl
      refine vx_catch (own := RL) (name := "java/lang/IllegalArgumentException") (E := "java/lang/IllegalArgumentException") hown [] ⟨0, 4, 5, 74⟩ [⟨0, 4, 8, 72⟩] htab (fun z hz => absurd hz List.not_mem_nil) (by decide) (by decide) (hts (.classLink RL 74 "java/lang/IllegalArgumentException") cl_runs_74) (va_Nw.use rfl (ZC_x2 hZ.1)) hce hcv hcl ?_
      refine lv_astore_n (lv' := [(1, .ref q), (0, .ref (E 0))]) hx hb dL_runs_5 rfl hl (by decide) rfl (fun ls hl => ?_)
      refine z_iconst hx hb dL_runs_6 ?_
      rw [hk3, r1_2]
      exact cn_i hx hb hr hlocks rfl rfl hS hP (by decide) (by decide) dL_runs_7
    · have hk3 : kx = 3 := hk9
      rw [hk3, exN_3] at hcl
      refine vx_catch (own := RL) (name := "java/lang/UnsupportedOperationException") (E := "java/lang/UnsupportedOperationException") hown [⟨0, 4, 5, 74⟩] ⟨0, 4, 8, 72⟩ [] htab (fun z hz => by rcases List.mem_singleton.mp hz with rfl; exact Or.inr ⟨by decide, _, hts (.classLink RL 74 "java/lang/IllegalArgumentException") cl_runs_74, hZ.2.2.2.2.1⟩) (by decide) (by decide) (va_Nw.use rfl hZ.2.2.2.2.2.2.2) (va_Nw.use rfl (ZC_x3 hZ.1)) hce hcv hcl ?_
      refine lv_astore_n (lv' := [(1, .ref q), (0, .ref (E 0))]) hx hb dL_runs_8 rfl hl (by decide) rfl (fun ls hl => ?_)
      refine z_bipush hx hb dL_runs_9 (by decide +kernel) ?_
      rw [hk3, r1_3]
      exact cn_i hx hb hr hlocks rfl rfl hS hP (by decide) (by decide) dL_runs_11
