/-! the class counts cases -/
def dNs (L : LD) : Nat := if 0 < dT L then dSize L 0 * strd L 0 4 else 1
theorem strd_p {L : LD} (hB : SzB L) (t : Nat) : strd L t 4 = if t + 1 < dT L then dSize L (t + 1) * strd L (t + 1) 4 else 1 := by
  have h1 : strd L (t + 1) 4 = strd L (t + 1) 3 := strd_st 3 (t + 1) (by have := hB.1; omega)
  rw [h1]
  rfl
/-- what is asked of the orchard that is grown -/
def GrO (o : Nat) (L : LD) (h : MH) : Prop := St h ∧ gR h 46 0 = .ref o ∧ gI h (o + 1) 1 = nI (dT L) ∧ ∀ t, t < dT L → gI h (o + 3) t = nI (dSize L t)
theorem GrO.sI {o a j : Nat} {v : Int32} {L : LD} {h : MH} (g : GrO o L h) (hS : St (sI h a j v)) (ha : ¬ a = o + 1 ∧ ¬ a = o + 3) : GrO o L (sI h a j v) := ⟨hS, g.2.1, by rw [gI_sI, if_neg (fun z => ha.1 z.1.symm)]; exact g.2.2.1, fun t ht => by rw [gI_sI, if_neg (fun z => ha.2 z.1.symm)]; exact g.2.2.2 t ht⟩
theorem ms_step {o t c : Nat} {L : LD} {h : MH} (ho : Oo o) (hB : SzB L) (g : GrO o L h) (ht : t < 4) (c1 : gI h 46 1 = nI c) : ∃ h', rn 15 4 B_15_7 [some (.ref 46), some (.int (nI t))] [] h = rn 15 4 B_15_7 [some (.ref 46), some (.int (nI t + (-1)))] [] h' ∧ GrO o L h' ∧ gI h' 46 1 = nI (if t < dT L then dSize L t * c else c) ∧ gI h' 47 t = nI c ∧ (∀ s, ¬ s = t → gI h' 47 s = gI h 47 s) ∧ Sm h h' [(46, some 1), (47, none)] := by
  have hr := Oo_rng ho
  have g0 := g
  obtain ⟨hS, g1, g2, g3⟩ := g
  have hb := hB.1
  have e10 : ((1 : Int32) = 0) = False := by simp
  have b : inBd (nI t) 4 = true := inBd_nI (by omega) ht
  have tt := tc_nI (show t < 2147483648 by omega)
  have n0 := nI_nneg (show t < 2147483648 by omega)
  have hS1 : St (sI h 47 t (nI c)) := by simpa only [kd_sI, ln_sI, hl_sI, gL_sI, gR_sI, kd_sL, ln_sL, hl_sL, gI_sL, gR_sL, kd_sR, ln_sR, hl_sR, gI_sR, gL_sR, kd_cpI, ln_cpI, hl_cpI, gL_cpI, gR_cpI, gI_cpI, gI_sI, gL_sL, gR_sR, St_sI, St_sL, St_cpI, Nat.reduceEqDiff, Nat.reduceAdd, eq_self, false_and, and_false, true_and, and_true, and_self, if_true, if_false, false_or, or_false, true_or, or_true, not_true_eq_false, not_false_eq_true, reduceIte] using hS
  have a2 := s_Na_hasN (h := sI h 47 t (nI c)) (a := o + 1) (KO_1 hS1 ho) (by omega) (n := dT L) (by rw [gI_sI, if_neg (by omega)]; exact g2) (x := nI t) (μ := 4) (by omega)
  by_cases q : t < dT L
  · rw [okB_nI (by omega) q, b2i_t] at a2
    have e1 := g3 t q
    have mm : nI c * nI (dSize L t) = nI (dSize L t * c) := by rw [nI_mul, Nat.mul_comm]
    rw [if_pos q]
    refine ⟨sI (sI h 47 t (nI c)) 46 1 (nI (dSize L t * c)), ?_, GrO.sI (GrO.sI g0 hS1 (by omega)) (by simpa only [kd_sI, ln_sI, hl_sI, gL_sI, gR_sI, kd_sL, ln_sL, hl_sL, gI_sL, gR_sL, kd_sR, ln_sR, hl_sR, gI_sR, gL_sR, kd_cpI, ln_cpI, hl_cpI, gL_cpI, gR_cpI, gI_cpI, gI_sI, gL_sL, gR_sR, St_sI, St_sL, St_cpI, Nat.reduceEqDiff, Nat.reduceAdd, eq_self, false_and, and_false, true_and, and_true, and_self, if_true, if_false, false_or, or_false, true_or, or_true, not_true_eq_false, not_false_eq_true, reduceIte] using hS) (by omega), by rw [gI_sI, if_pos ⟨rfl, rfl⟩], by rw [gI_sI, if_neg (by omega), gI_sI, if_pos ⟨rfl, rfl⟩], fun s hs => by rw [gI_sI, if_neg (by omega), gI_sI, if_neg (fun z => hs z.2)], ((Sm.rf h _).sI rfl).sI rfl⟩
    conv => lhs; rw [B_15_7]
    rcases ho with rfl | rfl
    · simp (disch := first | assumption | exact b2i_01 _ | decide | omega | (simp only [kd_sI, ln_sI, hl_sI, gL_sI, gR_sI, kd_sL, ln_sL, hl_sL, gI_sL, gR_sL, kd_sR, ln_sR, hl_sR, gI_sR, gL_sR, kd_cpI, ln_cpI, hl_cpI, gL_cpI, gR_cpI, gI_cpI, gI_sI, gL_sL, gR_sR, St_sI, St_sL, St_cpI, Nat.reduceEqDiff, Nat.reduceAdd, eq_self, false_and, and_false, true_and, and_true, and_self, if_true, if_false, false_or, or_false, true_or, or_true, not_true_eq_false, not_false_eq_true, reduceIte, K_46, F_46_2, F_46_3, F_46_4, F_46_5, F_46_6, F_46_7, K_47, N_47, K_3, F_3_0, F_3_1, F_3_2, F_3_3, F_3_4, F_3_5, F_3_6, F_3_7, F_3_8, F_3_9, F_3_10, F_3_11, K_6, N_6, hS, n0, g1, c1, b, tt, a2, e10, e1, mm, List.length_nil, List.length_cons, Nat.zero_le] <;> first | done | decide | omega | fail) | fail) only [B_15_0, e_aload_n_0, e_iconst_1, P_1, e_iconst_3, e_istore_n_1, clr_i, clr_l, clr_a, clr_n, e_gotow, T_15_7, e_iload_n_1, e_if_lt, G_2, G_1, e_iastore, G_0, G_500, e_call_2, psh_s, psh_n, Option.bind_some, e_if_eq, e_dup_i, e_dup_a, G_501, e_iaload, e_imul, T_15_53, B_15_53, e_iinc_1_m1, e_goto, T_15_59, B_15_59, R_15, kd_sI, ln_sI, hl_sI, gL_sI, gR_sI, kd_sL, ln_sL, hl_sL, gI_sL, gR_sL, kd_sR, ln_sR, hl_sR, gI_sR, gL_sR, kd_cpI, ln_cpI, hl_cpI, gL_cpI, gR_cpI, gI_cpI, gI_sI, gL_sL, gR_sR, St_sI, St_sL, St_cpI, Nat.reduceEqDiff, Nat.reduceAdd, eq_self, false_and, and_false, true_and, and_true, and_self, if_true, if_false, false_or, or_false, true_or, or_true, not_true_eq_false, not_false_eq_true, reduceIte, K_46, F_46_2, F_46_3, F_46_4, F_46_5, F_46_6, F_46_7, K_47, N_47, K_3, F_3_0, F_3_1, F_3_2, F_3_3, F_3_4, F_3_5, F_3_6, F_3_7, F_3_8, F_3_9, F_3_10, F_3_11, K_6, N_6, n0, g1, c1, b, tt, a2, e10, e1, mm, List.length_nil, List.length_cons, Nat.zero_le]
    · simp (disch := first | assumption | exact b2i_01 _ | decide | omega | (simp only [kd_sI, ln_sI, hl_sI, gL_sI, gR_sI, kd_sL, ln_sL, hl_sL, gI_sL, gR_sL, kd_sR, ln_sR, hl_sR, gI_sR, gL_sR, kd_cpI, ln_cpI, hl_cpI, gL_cpI, gR_cpI, gI_cpI, gI_sI, gL_sL, gR_sR, St_sI, St_sL, St_cpI, Nat.reduceEqDiff, Nat.reduceAdd, eq_self, false_and, and_false, true_and, and_true, and_self, if_true, if_false, false_or, or_false, true_or, or_true, not_true_eq_false, not_false_eq_true, reduceIte, K_46, F_46_2, F_46_3, F_46_4, F_46_5, F_46_6, F_46_7, K_47, N_47, K_23, F_23_0, F_23_1, F_23_2, F_23_3, F_23_4, F_23_5, F_23_6, F_23_7, F_23_8, F_23_9, F_23_10, F_23_11, K_26, N_26, hS, n0, g1, c1, b, tt, a2, e10, e1, mm, List.length_nil, List.length_cons, Nat.zero_le] <;> first | done | decide | omega | fail) | fail) only [B_15_0, e_aload_n_0, e_iconst_1, P_1, e_iconst_3, e_istore_n_1, clr_i, clr_l, clr_a, clr_n, e_gotow, T_15_7, e_iload_n_1, e_if_lt, G_2, G_1, e_iastore, G_0, G_500, e_call_2, psh_s, psh_n, Option.bind_some, e_if_eq, e_dup_i, e_dup_a, G_501, e_iaload, e_imul, T_15_53, B_15_53, e_iinc_1_m1, e_goto, T_15_59, B_15_59, R_15, kd_sI, ln_sI, hl_sI, gL_sI, gR_sI, kd_sL, ln_sL, hl_sL, gI_sL, gR_sL, kd_sR, ln_sR, hl_sR, gI_sR, gL_sR, kd_cpI, ln_cpI, hl_cpI, gL_cpI, gR_cpI, gI_cpI, gI_sI, gL_sL, gR_sR, St_sI, St_sL, St_cpI, Nat.reduceEqDiff, Nat.reduceAdd, eq_self, false_and, and_false, true_and, and_true, and_self, if_true, if_false, false_or, or_false, true_or, or_true, not_true_eq_false, not_false_eq_true, reduceIte, K_46, F_46_2, F_46_3, F_46_4, F_46_5, F_46_6, F_46_7, K_47, N_47, K_23, F_23_0, F_23_1, F_23_2, F_23_3, F_23_4, F_23_5, F_23_6, F_23_7, F_23_8, F_23_9, F_23_10, F_23_11, K_26, N_26, n0, g1, c1, b, tt, a2, e10, e1, mm, List.length_nil, List.length_cons, Nat.zero_le]
  · have ok : okB (nI t) (dT L) = false := by
      unfold okB
      rw [decide_eq_false_iff_not]
      intro z
      have z2 := z.2
      rw [Int32.lt_iff_toInt_lt, nI_toInt (by omega), nI_toInt (by omega)] at z2
      omega
    rw [ok, b2i_f] at a2
    rw [if_neg q]
    refine ⟨sI h 47 t (nI c), ?_, GrO.sI g0 hS1 (by omega), by rw [gI_sI, if_neg (by omega)]; exact c1, by rw [gI_sI, if_pos ⟨rfl, rfl⟩], fun s hs => by rw [gI_sI, if_neg (fun z => hs z.2)], (Sm.rf h _).sI rfl⟩
    conv => lhs; rw [B_15_7]
    rcases ho with rfl | rfl
    · simp (disch := first | assumption | exact b2i_01 _ | decide | omega | (simp only [kd_sI, ln_sI, hl_sI, gL_sI, gR_sI, kd_sL, ln_sL, hl_sL, gI_sL, gR_sL, kd_sR, ln_sR, hl_sR, gI_sR, gL_sR, kd_cpI, ln_cpI, hl_cpI, gL_cpI, gR_cpI, gI_cpI, gI_sI, gL_sL, gR_sR, St_sI, St_sL, St_cpI, Nat.reduceEqDiff, Nat.reduceAdd, eq_self, false_and, and_false, true_and, and_true, and_self, if_true, if_false, false_or, or_false, true_or, or_true, not_true_eq_false, not_false_eq_true, reduceIte, K_46, F_46_2, F_46_3, F_46_4, F_46_5, F_46_6, F_46_7, K_47, N_47, K_3, F_3_0, F_3_1, F_3_2, F_3_3, F_3_4, F_3_5, F_3_6, F_3_7, F_3_8, F_3_9, F_3_10, F_3_11, K_6, N_6, hS, n0, g1, c1, b, tt, a2, List.length_nil, List.length_cons, Nat.zero_le] <;> first | done | decide | omega | fail) | fail) only [B_15_0, e_aload_n_0, e_iconst_1, P_1, e_iconst_3, e_istore_n_1, clr_i, clr_l, clr_a, clr_n, e_gotow, T_15_7, e_iload_n_1, e_if_lt, G_2, G_1, e_iastore, G_0, G_500, e_call_2, psh_s, psh_n, Option.bind_some, e_if_eq, e_dup_i, e_dup_a, G_501, e_iaload, e_imul, T_15_53, B_15_53, e_iinc_1_m1, e_goto, T_15_59, B_15_59, R_15, kd_sI, ln_sI, hl_sI, gL_sI, gR_sI, kd_sL, ln_sL, hl_sL, gI_sL, gR_sL, kd_sR, ln_sR, hl_sR, gI_sR, gL_sR, kd_cpI, ln_cpI, hl_cpI, gL_cpI, gR_cpI, gI_cpI, gI_sI, gL_sL, gR_sR, St_sI, St_sL, St_cpI, Nat.reduceEqDiff, Nat.reduceAdd, eq_self, false_and, and_false, true_and, and_true, and_self, if_true, if_false, false_or, or_false, true_or, or_true, not_true_eq_false, not_false_eq_true, reduceIte, K_46, F_46_2, F_46_3, F_46_4, F_46_5, F_46_6, F_46_7, K_47, N_47, K_3, F_3_0, F_3_1, F_3_2, F_3_3, F_3_4, F_3_5, F_3_6, F_3_7, F_3_8, F_3_9, F_3_10, F_3_11, K_6, N_6, n0, g1, c1, b, tt, a2, List.length_nil, List.length_cons, Nat.zero_le]
    · simp (disch := first | assumption | exact b2i_01 _ | decide | omega | (simp only [kd_sI, ln_sI, hl_sI, gL_sI, gR_sI, kd_sL, ln_sL, hl_sL, gI_sL, gR_sL, kd_sR, ln_sR, hl_sR, gI_sR, gL_sR, kd_cpI, ln_cpI, hl_cpI, gL_cpI, gR_cpI, gI_cpI, gI_sI, gL_sL, gR_sR, St_sI, St_sL, St_cpI, Nat.reduceEqDiff, Nat.reduceAdd, eq_self, false_and, and_false, true_and, and_true, and_self, if_true, if_false, false_or, or_false, true_or, or_true, not_true_eq_false, not_false_eq_true, reduceIte, K_46, F_46_2, F_46_3, F_46_4, F_46_5, F_46_6, F_46_7, K_47, N_47, K_23, F_23_0, F_23_1, F_23_2, F_23_3, F_23_4, F_23_5, F_23_6, F_23_7, F_23_8, F_23_9, F_23_10, F_23_11, K_26, N_26, hS, n0, g1, c1, b, tt, a2, List.length_nil, List.length_cons, Nat.zero_le] <;> first | done | decide | omega | fail) | fail) only [B_15_0, e_aload_n_0, e_iconst_1, P_1, e_iconst_3, e_istore_n_1, clr_i, clr_l, clr_a, clr_n, e_gotow, T_15_7, e_iload_n_1, e_if_lt, G_2, G_1, e_iastore, G_0, G_500, e_call_2, psh_s, psh_n, Option.bind_some, e_if_eq, e_dup_i, e_dup_a, G_501, e_iaload, e_imul, T_15_53, B_15_53, e_iinc_1_m1, e_goto, T_15_59, B_15_59, R_15, kd_sI, ln_sI, hl_sI, gL_sI, gR_sI, kd_sL, ln_sL, hl_sL, gI_sL, gR_sL, kd_sR, ln_sR, hl_sR, gI_sR, gL_sR, kd_cpI, ln_cpI, hl_cpI, gL_cpI, gR_cpI, gI_cpI, gI_sI, gL_sL, gR_sR, St_sI, St_sL, St_cpI, Nat.reduceEqDiff, Nat.reduceAdd, eq_self, false_and, and_false, true_and, and_true, and_self, if_true, if_false, false_or, or_false, true_or, or_true, not_true_eq_false, not_false_eq_true, reduceIte, K_46, F_46_2, F_46_3, F_46_4, F_46_5, F_46_6, F_46_7, K_47, N_47, K_23, F_23_0, F_23_1, F_23_2, F_23_3, F_23_4, F_23_5, F_23_6, F_23_7, F_23_8, F_23_9, F_23_10, F_23_11, K_26, N_26, n0, g1, c1, b, tt, a2, List.length_nil, List.length_cons, Nat.zero_le]
theorem ms_c {L : LD} (hB : SzB L) (t : Nat) : (if t < dT L then dSize L t * strd L t 4 else strd L t 4) = if t < dT L then dSize L t * strd L t 4 else 1 := by
  by_cases q : t < dT L
  · rw [if_pos q, if_pos q]
  · rw [if_neg q, if_neg q, strd_p hB, if_neg (by omega)]
theorem lp_measure {o : Nat} {L : LD} (ho : Oo o) (hB : SzB L) : ∀ t h, t < 4 → GrO o L h → gI h 46 1 = nI (strd L t 4) → (∀ s, t < s → s < 4 → gI h 47 s = nI (strd L s 4)) → ∃ h', rn 15 4 B_15_7 [some (.ref 46), some (.int (nI t))] [] h = some (none, h') ∧ GrO o L h' ∧ gI h' 46 1 = nI (dNs L) ∧ (∀ s, s < 4 → gI h' 47 s = nI (strd L s 4)) ∧ Sm h h' [(46, some 1), (47, none)] := by
  intro t
  induction t with
  | zero =>
    intro h ht g c1 c2
    obtain ⟨h1, k1, g1, k2, k3, k4, k5⟩ := ms_step ho hB g ht c1
    rw [ms_c hB] at k2
    refine ⟨h1, ?_, g1, k2, fun s hs => ?_, k5⟩
    · rw [k1, show nI 0 + (-1) = (-1 : Int32) by decide, B_15_7]
      have hS := g1.1
      simp (disch := first | assumption | exact b2i_01 _ | decide | omega | (simp only [kd_sI, ln_sI, hl_sI, gL_sI, gR_sI, kd_sL, ln_sL, hl_sL, gI_sL, gR_sL, kd_sR, ln_sR, hl_sR, gI_sR, gL_sR, kd_cpI, ln_cpI, hl_cpI, gL_cpI, gR_cpI, gI_cpI, gI_sI, gL_sL, gR_sR, St_sI, St_sL, St_cpI, Nat.reduceEqDiff, Nat.reduceAdd, eq_self, false_and, and_false, true_and, and_true, and_self, if_true, if_false, false_or, or_false, true_or, or_true, not_true_eq_false, not_false_eq_true, reduceIte, K_46, F_46_2, F_46_3, F_46_4, F_46_5, F_46_6, F_46_7, hS, show ((-1 : Int32) < 0) = True by decide] <;> first | done | decide | omega | fail) | fail) only [B_15_0, e_aload_n_0, e_iconst_1, P_1, e_iconst_3, e_istore_n_1, clr_i, clr_l, clr_a, clr_n, e_gotow, T_15_7, e_iload_n_1, e_if_lt, G_2, G_1, e_iastore, G_0, G_500, e_call_2, psh_s, psh_n, Option.bind_some, e_if_eq, e_dup_i, e_dup_a, G_501, e_iaload, e_imul, T_15_53, B_15_53, e_iinc_1_m1, e_goto, T_15_59, B_15_59, R_15, kd_sI, ln_sI, hl_sI, gL_sI, gR_sI, kd_sL, ln_sL, hl_sL, gI_sL, gR_sL, kd_sR, ln_sR, hl_sR, gI_sR, gL_sR, kd_cpI, ln_cpI, hl_cpI, gL_cpI, gR_cpI, gI_cpI, gI_sI, gL_sL, gR_sR, St_sI, St_sL, St_cpI, Nat.reduceEqDiff, Nat.reduceAdd, eq_self, false_and, and_false, true_and, and_true, and_self, if_true, if_false, false_or, or_false, true_or, or_true, not_true_eq_false, not_false_eq_true, reduceIte, K_46, F_46_2, F_46_3, F_46_4, F_46_5, F_46_6, F_46_7, show ((-1 : Int32) < 0) = True by decide]
    · by_cases q : s = 0
      · rw [q]; exact k3
      · rw [k4 s q]; exact c2 s (by omega) hs
  | succ t ih =>
    intro h ht g c1 c2
    obtain ⟨h1, k1, g1, k2, k3, k4, k5⟩ := ms_step ho hB g ht c1
    rw [ms_c hB, ← strd_p hB t] at k2
    obtain ⟨h2, m1, m2, m3, m4, m5⟩ := ih h1 (by omega) g1 k2 (fun s h1' h2' => by
      by_cases q : s = t + 1
      · rw [q]; exact k3
      · rw [k4 s q]; exact c2 s (by omega) h2')
    refine ⟨h2, ?_, m2, m3, m4, k5.trans m5⟩
    rw [k1, pk_m1 t]
    exact m1
theorem s_Ca_measure {o : Nat} {L : LD} {h : MH} (ho : Oo o) (hB : SzB L) (g : GrO o L h) {μ : Nat} (hμ : 4 < μ) : ∃ h', cal 15 [.ref 46] μ h = some (none, h') ∧ GrO o L h' ∧ gI h' 46 1 = nI (dNs L) ∧ (∀ s, s < 4 → gI h' 47 s = nI (strd L s 4)) ∧ Sm h h' [(46, some 1), (47, none)] := by
  have hr := Oo_rng ho
  have hS := g.1
  have hS1 : St (sI h 46 1 1) := by simpa only [kd_sI, ln_sI, hl_sI, gL_sI, gR_sI, kd_sL, ln_sL, hl_sL, gI_sL, gR_sL, kd_sR, ln_sR, hl_sR, gI_sR, gL_sR, kd_cpI, ln_cpI, hl_cpI, gL_cpI, gR_cpI, gI_cpI, gI_sI, gL_sL, gR_sR, St_sI, St_sL, St_cpI, Nat.reduceEqDiff, Nat.reduceAdd, eq_self, false_and, and_false, true_and, and_true, and_self, if_true, if_false, false_or, or_false, true_or, or_true, not_true_eq_false, not_false_eq_true, reduceIte] using hS
  obtain ⟨h1, k1, k2, k3, k4, k5⟩ := lp_measure ho hB 3 (sI h 46 1 1) (by omega) (GrO.sI g hS1 (by omega)) (by
    rw [gI_sI, if_pos ⟨rfl, rfl⟩, strd_p hB, if_neg (by have := hB.1; omega)]
    rfl) (fun s h1 h2 => by omega)
  refine ⟨h1, ?_, k2, k3, k4, (((Sm.rf h _).sI rfl).trans k5)⟩
  rw [C_15 46  μ _ (K_46 hS) (by decide) hμ]
  simp (disch := first | assumption | exact b2i_01 _ | decide | omega | (simp only [kd_sI, ln_sI, hl_sI, gL_sI, gR_sI, kd_sL, ln_sL, hl_sL, gI_sL, gR_sL, kd_sR, ln_sR, hl_sR, gI_sR, gL_sR, kd_cpI, ln_cpI, hl_cpI, gL_cpI, gR_cpI, gI_cpI, gI_sI, gL_sL, gR_sR, St_sI, St_sL, St_cpI, Nat.reduceEqDiff, Nat.reduceAdd, eq_self, false_and, and_false, true_and, and_true, and_self, if_true, if_false, false_or, or_false, true_or, or_true, not_true_eq_false, not_false_eq_true, reduceIte, K_46, F_46_2, F_46_3, F_46_4, F_46_5, F_46_6, F_46_7, hS] <;> first | done | decide | omega | fail) | fail) only [B_15_0, e_aload_n_0, e_iconst_1, P_1, e_iconst_3, e_istore_n_1, clr_i, clr_l, clr_a, clr_n, e_gotow, T_15_7, e_iload_n_1, e_if_lt, G_2, G_1, e_iastore, G_0, G_500, e_call_2, psh_s, psh_n, Option.bind_some, e_if_eq, e_dup_i, e_dup_a, G_501, e_iaload, e_imul, T_15_53, B_15_53, e_iinc_1_m1, e_goto, T_15_59, B_15_59, R_15, kd_sI, ln_sI, hl_sI, gL_sI, gR_sI, kd_sL, ln_sL, hl_sL, gI_sL, gR_sL, kd_sR, ln_sR, hl_sR, gI_sR, gL_sR, kd_cpI, ln_cpI, hl_cpI, gL_cpI, gR_cpI, gI_cpI, gI_sI, gL_sL, gR_sR, St_sI, St_sL, St_cpI, Nat.reduceEqDiff, Nat.reduceAdd, eq_self, false_and, and_false, true_and, and_true, and_self, if_true, if_false, false_or, or_false, true_or, or_true, not_true_eq_false, not_false_eq_true, reduceIte, K_46, F_46_2, F_46_3, F_46_4, F_46_5, F_46_6, F_46_7]
  exact k1
/-- the row of a case -/
theorem lp_fillRow {o k : Nat} {L : LD} (ho : Oo o) (hB : SzB L) (hk : k < 256) : ∀ m t h, t + m = 4 → GrO o L h → (∀ s, s < 4 → gI h 47 s = nI (strd L s 4)) → (∀ s, s < t → s < dT L → gI h 48 s = nI (val L k s)) → ∃ h', rn 17 5 B_17_2 [some (.ref 46), some (.int (nI k)), some (.int (nI t))] [] h = some (none, h') ∧ GrO o L h' ∧ (∀ s, s < dT L → gI h' 48 s = nI (val L k s)) ∧ Sm h h' [(48, none)] := by
  have hr := Oo_rng ho
  intro m
  induction m with
  | zero =>
    intro t h ht g c1 c2
    obtain rfl : t = 4 := by omega
    have hS := g.1
    have hb := hB.1
    refine ⟨h, ?_, g, fun s hs => c2 s (by omega) hs, Sm.rf h _⟩
    rw [B_17_2]
    simp (disch := first | assumption | exact b2i_01 _ | decide | omega | (simp only [kd_sI, ln_sI, hl_sI, gL_sI, gR_sI, kd_sL, ln_sL, hl_sL, gI_sL, gR_sL, kd_sR, ln_sR, hl_sR, gI_sR, gL_sR, kd_cpI, ln_cpI, hl_cpI, gL_cpI, gR_cpI, gI_cpI, gI_sI, gL_sL, gR_sR, St_sI, St_sL, St_cpI, Nat.reduceEqDiff, Nat.reduceAdd, eq_self, false_and, and_false, true_and, and_true, and_self, if_true, if_false, false_or, or_false, true_or, or_true, not_true_eq_false, not_false_eq_true, reduceIte, K_46, F_46_2, F_46_3, F_46_4, F_46_5, F_46_6, F_46_7, hS, show ((4 : Int32) ≤ nI 4) = True by decide] <;> first | done | decide | omega | fail) | fail) only [B_17_0, e_iconst_0, e_istore_n_2, clr_i, clr_l, clr_a, clr_n, e_gotow, T_17_2, e_iload_n_2, e_iconst_4, e_ic_ge, e_aload_n_0, G_3, e_iload_n_1, e_call_3, psh_s, psh_n, Option.bind_some, e_iastore, e_iinc_2_1, e_goto, T_17_25, B_17_25, R_17, kd_sI, ln_sI, hl_sI, gL_sI, gR_sI, kd_sL, ln_sL, hl_sL, gI_sL, gR_sL, kd_sR, ln_sR, hl_sR, gI_sR, gL_sR, kd_cpI, ln_cpI, hl_cpI, gL_cpI, gR_cpI, gI_cpI, gI_sI, gL_sL, gR_sR, St_sI, St_sL, St_cpI, Nat.reduceEqDiff, Nat.reduceAdd, eq_self, false_and, and_false, true_and, and_true, and_self, if_true, if_false, false_or, or_false, true_or, or_true, not_true_eq_false, not_false_eq_true, reduceIte, K_46, F_46_2, F_46_3, F_46_4, F_46_5, F_46_6, F_46_7, show ((4 : Int32) ≤ nI 4) = True by decide]
  | succ m ih =>
    intro t h ht g c1 c2
    have g0 := g
    obtain ⟨hS, g1, g2, g3⟩ := g
    have hb := hB.1
    have b : inBd (nI t) 4 = true := inBd_nI (by omega) (by omega)
    have tt := tc_nI (show t < 2147483648 by omega)
    have lt : ((4 : Int32) ≤ nI t) = False := (eq_false (by simp (disch := omega) only [nI_lit, nI_add, lt_nI, le_nI, eq_nI] <;> omega) : ((4 : Int32) ≤ nI t) = False)
    obtain ⟨v, f, hv⟩ : ∃ v, cal 18 [.ref 46, .int (nI k), .int (nI t)] 5 h = some (some (.int v), h) ∧ (t < dT L → v = nI (val L k t)) := by
      by_cases q : t < dT L
      · exact ⟨_, s_Ca_valueIn hS ho g1 g2 hB (c1 t (by omega)) (g3 t q) hk q (by omega), fun _ => rfl⟩
      · have a2 := s_Na_hasN (h := h) (a := o + 1) (KO_1 hS ho) (by omega) (n := dT L) g2 (x := nI t) (μ := 4) (by omega)
        have ok : okB (nI t) (dT L) = false := by
          unfold okB
          rw [decide_eq_false_iff_not]
          intro z
          have z2 := z.2
          rw [Int32.lt_iff_toInt_lt, nI_toInt (by omega), nI_toInt (by omega)] at z2
          omega
        rw [ok, b2i_f] at a2
        refine ⟨0, ?_, fun z => absurd z q⟩
        rw [C_18 46 _ _ 5 h (K_46 hS) (by decide) (by omega)]
        simp (disch := first | assumption | exact b2i_01 _ | decide | omega | (simp only [kd_sI, ln_sI, hl_sI, gL_sI, gR_sI, kd_sL, ln_sL, hl_sL, gI_sL, gR_sL, kd_sR, ln_sR, hl_sR, gI_sR, gL_sR, kd_cpI, ln_cpI, hl_cpI, gL_cpI, gR_cpI, gI_cpI, gI_sI, gL_sL, gR_sR, St_sI, St_sL, St_cpI, Nat.reduceEqDiff, Nat.reduceAdd, eq_self, false_and, and_false, true_and, and_true, and_self, if_true, if_false, false_or, or_false, true_or, or_true, not_true_eq_false, not_false_eq_true, reduceIte, K_46, F_46_2, F_46_3, F_46_4, F_46_5, F_46_6, F_46_7, KO_0, KO_1, KO_2, NO_2, KO_3, NO_3, KO_4, KO_5, NO_5, KO_6, NO_6, KO_7, NO_7, KO_8, KO_9, NO_9, KO_10, NO_10, KO_11, NO_11, KO_12, NO_12, KO_13, NO_13, KO_14, NO_14, KO_15, KO_16, NO_16, KO_17, NO_17, KO_18, NO_18, KO_19, NO_19, FO_0_0, FO_0_1, FO_0_2, FO_0_3, FO_0_4, FO_0_5, FO_0_6, FO_0_7, FO_0_8, FO_0_9, FO_0_10, FO_0_11, FO_1_0, FO_4_0, FO_8_0, FO_15_0, FO_15_2, FO_15_3, FO_15_4, Oo_2, Oo_p, hS, g1, ho, a2, List.length_nil, List.length_cons, Nat.zero_le] <;> first | done | decide | omega | fail) | fail) only [B_18_0, e_aload_n_0, G_0, G_500, e_iload_n_2, e_call_2, psh_s, psh_n, Option.bind_some, e_if_eq, G_2, e_iaload, e_if_le, G_501, e_if_gt, e_gotow, T_18_35, B_18_35, e_iconst_0, R_18, T_18_37, B_18_37, e_iload_n_1, e_idiv, e_irem, kd_sI, ln_sI, hl_sI, gL_sI, gR_sI, kd_sL, ln_sL, hl_sL, gI_sL, gR_sL, kd_sR, ln_sR, hl_sR, gI_sR, gL_sR, kd_cpI, ln_cpI, hl_cpI, gL_cpI, gR_cpI, gI_cpI, gI_sI, gL_sL, gR_sR, St_sI, St_sL, St_cpI, Nat.reduceEqDiff, Nat.reduceAdd, eq_self, false_and, and_false, true_and, and_true, and_self, if_true, if_false, false_or, or_false, true_or, or_true, not_true_eq_false, not_false_eq_true, reduceIte, K_46, F_46_2, F_46_3, F_46_4, F_46_5, F_46_6, F_46_7, KO_0, KO_1, KO_2, NO_2, KO_3, NO_3, KO_4, KO_5, NO_5, KO_6, NO_6, KO_7, NO_7, KO_8, KO_9, NO_9, KO_10, NO_10, KO_11, NO_11, KO_12, NO_12, KO_13, NO_13, KO_14, NO_14, KO_15, KO_16, NO_16, KO_17, NO_17, KO_18, NO_18, KO_19, NO_19, FO_0_0, FO_0_1, FO_0_2, FO_0_3, FO_0_4, FO_0_5, FO_0_6, FO_0_7, FO_0_8, FO_0_9, FO_0_10, FO_0_11, FO_1_0, FO_4_0, FO_8_0, FO_15_0, FO_15_2, FO_15_3, FO_15_4, Oo_2, Oo_p, g1, ho, a2, List.length_nil, List.length_cons, Nat.zero_le]
    have hS1 : St (sI h 48 t v) := by simpa only [kd_sI, ln_sI, hl_sI, gL_sI, gR_sI, kd_sL, ln_sL, hl_sL, gI_sL, gR_sL, kd_sR, ln_sR, hl_sR, gI_sR, gL_sR, kd_cpI, ln_cpI, hl_cpI, gL_cpI, gR_cpI, gI_cpI, gI_sI, gL_sL, gR_sR, St_sI, St_sL, St_cpI, Nat.reduceEqDiff, Nat.reduceAdd, eq_self, false_and, and_false, true_and, and_true, and_self, if_true, if_false, false_or, or_false, true_or, or_true, not_true_eq_false, not_false_eq_true, reduceIte] using hS
    obtain ⟨h1, k1, k2, k3, k4⟩ := ih (t + 1) (sI h 48 t v) (by omega) (GrO.sI g0 hS1 (by omega)) (fun s hs => by rw [gI_sI, if_neg (by omega)]; exact c1 s hs) (fun s h1 h2 => by
      rw [gI_sI]
      by_cases q : s = t
      · rw [if_pos ⟨rfl, q⟩, q]; exact hv (by omega)
      · rw [if_neg (fun z => q z.2)]; exact c2 s (by omega) h2)
    refine ⟨h1, ?_, k2, k3, (((Sm.rf h _).sI rfl).trans k4)⟩
    rw [← k1]
    conv => lhs; rw [B_17_2]
    simp (disch := first | assumption | exact b2i_01 _ | decide | omega | (simp only [kd_sI, ln_sI, hl_sI, gL_sI, gR_sI, kd_sL, ln_sL, hl_sL, gI_sL, gR_sL, kd_sR, ln_sR, hl_sR, gI_sR, gL_sR, kd_cpI, ln_cpI, hl_cpI, gL_cpI, gR_cpI, gI_cpI, gI_sI, gL_sL, gR_sR, St_sI, St_sL, St_cpI, Nat.reduceEqDiff, Nat.reduceAdd, eq_self, false_and, and_false, true_and, and_true, and_self, if_true, if_false, false_or, or_false, true_or, or_true, not_true_eq_false, not_false_eq_true, reduceIte, K_46, F_46_2, F_46_3, F_46_4, F_46_5, F_46_6, F_46_7, K_48, N_48, hS, lt, f, b, tt, nI_1, List.length_nil, List.length_cons, Nat.zero_le] <;> first | done | decide | omega | fail) | fail) only [B_17_0, e_iconst_0, e_istore_n_2, clr_i, clr_l, clr_a, clr_n, e_gotow, T_17_2, e_iload_n_2, e_iconst_4, e_ic_ge, e_aload_n_0, G_3, e_iload_n_1, e_call_3, psh_s, psh_n, Option.bind_some, e_iastore, e_iinc_2_1, e_goto, T_17_25, B_17_25, R_17, kd_sI, ln_sI, hl_sI, gL_sI, gR_sI, kd_sL, ln_sL, hl_sL, gI_sL, gR_sL, kd_sR, ln_sR, hl_sR, gI_sR, gL_sR, kd_cpI, ln_cpI, hl_cpI, gL_cpI, gR_cpI, gI_cpI, gI_sI, gL_sL, gR_sR, St_sI, St_sL, St_cpI, Nat.reduceEqDiff, Nat.reduceAdd, eq_self, false_and, and_false, true_and, and_true, and_self, if_true, if_false, false_or, or_false, true_or, or_true, not_true_eq_false, not_false_eq_true, reduceIte, K_46, F_46_2, F_46_3, F_46_4, F_46_5, F_46_6, F_46_7, K_48, N_48, lt, f, b, tt, nI_1, List.length_nil, List.length_cons, Nat.zero_le]
theorem s_Ca_fillRow {o k : Nat} {L : LD} {h : MH} (ho : Oo o) (hB : SzB L) (hk : k < 256) (g : GrO o L h) (c1 : ∀ s, s < 4 → gI h 47 s = nI (strd L s 4)) {μ : Nat} (hμ : 5 < μ) : ∃ h', cal 17 [.ref 46, .int (nI k)] μ h = some (none, h') ∧ GrO o L h' ∧ (∀ s, s < dT L → gI h' 48 s = nI (val L k s)) ∧ Sm h h' [(48, none)] := by
  have hS := g.1
  obtain ⟨h1, k1, k2, k3, k4⟩ := lp_fillRow ho hB hk 4 0 h (by omega) g c1 (fun s h1 _ => absurd h1 (by omega))
  refine ⟨h1, ?_, k2, k3, k4⟩
  rw [C_17 46 _ μ _ (K_46 hS) (by decide) hμ]
  simp (disch := first | assumption | exact b2i_01 _ | decide | omega | (simp only [kd_sI, ln_sI, hl_sI, gL_sI, gR_sI, kd_sL, ln_sL, hl_sL, gI_sL, gR_sL, kd_sR, ln_sR, hl_sR, gI_sR, gL_sR, kd_cpI, ln_cpI, hl_cpI, gL_cpI, gR_cpI, gI_cpI, gI_sI, gL_sL, gR_sR, St_sI, St_sL, St_cpI, Nat.reduceEqDiff, Nat.reduceAdd, eq_self, false_and, and_false, true_and, and_true, and_self, if_true, if_false, false_or, or_false, true_or, or_true, not_true_eq_false, not_false_eq_true, reduceIte, K_46, F_46_2, F_46_3, F_46_4, F_46_5, F_46_6, F_46_7, hS] <;> first | done | decide | omega | fail) | fail) only [B_17_0, e_iconst_0, e_istore_n_2, clr_i, clr_l, clr_a, clr_n, e_gotow, T_17_2, e_iload_n_2, e_iconst_4, e_ic_ge, e_aload_n_0, G_3, e_iload_n_1, e_call_3, psh_s, psh_n, Option.bind_some, e_iastore, e_iinc_2_1, e_goto, T_17_25, B_17_25, R_17, kd_sI, ln_sI, hl_sI, gL_sI, gR_sI, kd_sL, ln_sL, hl_sL, gI_sL, gR_sL, kd_sR, ln_sR, hl_sR, gI_sR, gL_sR, kd_cpI, ln_cpI, hl_cpI, gL_cpI, gR_cpI, gI_cpI, gI_sI, gL_sL, gR_sR, St_sI, St_sL, St_cpI, Nat.reduceEqDiff, Nat.reduceAdd, eq_self, false_and, and_false, true_and, and_true, and_self, if_true, if_false, false_or, or_false, true_or, or_true, not_true_eq_false, not_false_eq_true, reduceIte, K_46, F_46_2, F_46_3, F_46_4, F_46_5, F_46_6, F_46_7]
  exact k1
