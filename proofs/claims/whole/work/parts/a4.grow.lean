/-! the class counts cases -/
def dNs (L : LD) : Nat := if 0 < dT L then dSize L 0 * strd L 0 4 else 1
theorem strd_p {L : LD} (hB : SzB L) (t : Nat) : strd L t 4 = if t + 1 < dT L then dSize L (t + 1) * strd L (t + 1) 4 else 1 := by
  have h1 : strd L (t + 1) 4 = strd L (t + 1) 3 := strd_st 3 (t + 1) (by have := hB.1; omega)
  rw [h1]
  rfl
/-- what is asked of the orchard that is grown -/
def GrO (o : Nat) (L : LD) (h : MH) : Prop := St h ∧ gR h 46 0 = .ref o ∧ gI h (o + 1) 1 = nI (dT L) ∧ ∀ t, t < dT L → gI h (o + 3) t = nI (dSize L t)
theorem GrO.sI {o a j : Nat} {v : Int32} {L : LD} {h : MH} (g : GrO o L h) (hS : St (sI h a j v)) (ha : ¬ a = o + 1 ∧ ¬ a = o + 3) : GrO o L (sI h a j v) := ⟨hS, g.2.1, by rw [gI_sI, if_neg (fun z => ha.1 z.1.symm)]; exact g.2.2.1, fun t ht => by rw [gI_sI, if_neg (fun z => ha.2 z.1.symm)]; exact g.2.2.2 t ht⟩
theorem lp_measure {o : Nat} {L : LD} (ho : Oo o) (hB : SzB L) : ∀ t h, t < 4 → GrO o L h → gI h 46 1 = nI (strd L t 4) → (∀ s, t < s → s < 4 → gI h 47 s = nI (strd L s 4)) → ∃ h', rn 15 4 B_15_7 [some (.ref 46), some (.int (nI t))] [] h = some (none, h') ∧ GrO o L h' ∧ gI h' 46 1 = nI (dNs L) ∧ (∀ s, s < 4 → gI h' 47 s = nI (strd L s 4)) ∧ Sm h h' [(46, some 1), (47, none)] := by
  have hr := Oo_rng ho
  have e10 : ((1 : Int32) = 0) = False := by simp
  intro t
  induction t with
  | zero =>
    intro h ht g c1 c2
    obtain ⟨hS, g1, g2, g3⟩ := g
    have hb := hB.1
    have a1 : cal 16 [.ref (o + 1), .int (nI 0)] 4 h = _ := s_Na_hasN (KO_1 hS ho) (by omega) g2 (by omega)
    have b : inBd (nI 0) 4 = true := by decide
    have tt : (nI 0).toNatClampNeg = 0 := rfl
    have n0 := nI_nneg (show 0 < 2147483648 by omega)
    have m1 : nI 0 + (-1) = -1 := by decide
    have lm : ((-1 : Int32) < 0) = True := by decide
    by_cases c : 0 < dT L
    · rw [okB_nI (by omega) c, b2i_t] at a1
      have e1 := g3 0 c
      refine ⟨sI (sI h 47 0 (nI (strd L 0 4))) 46 1 (nI (strd L 0 4 * dSize L 0)), ?_, ((⟨hS, g1, g2, g3⟩ : GrO o L h).sI (by simpa only [kd_sI, ln_sI, hl_sI, gL_sI, gR_sI, kd_sL, ln_sL, hl_sL, gI_sL, gR_sL, kd_sR, ln_sR, hl_sR, gI_sR, gL_sR, kd_cpI, ln_cpI, hl_cpI, gL_cpI, gR_cpI, gI_cpI, gI_sI, gL_sL, gR_sR, St_sI, St_sL, St_cpI, Nat.reduceEqDiff, Nat.reduceAdd, eq_self, false_and, and_false, true_and, and_true, and_self, if_true, if_false, false_or, or_false, true_or, or_true, not_true_eq_false, not_false_eq_true, reduceIte] using hS) (by omega)).sI (by simpa only [kd_sI, ln_sI, hl_sI, gL_sI, gR_sI, kd_sL, ln_sL, hl_sL, gI_sL, gR_sL, kd_sR, ln_sR, hl_sR, gI_sR, gL_sR, kd_cpI, ln_cpI, hl_cpI, gL_cpI, gR_cpI, gI_cpI, gI_sI, gL_sL, gR_sR, St_sI, St_sL, St_cpI, Nat.reduceEqDiff, Nat.reduceAdd, eq_self, false_and, and_false, true_and, and_true, and_self, if_true, if_false, false_or, or_false, true_or, or_true, not_true_eq_false, not_false_eq_true, reduceIte] using hS) (by omega), ?_, fun s hs => ?_, ((Sm.rf h _).sI rfl).sI rfl⟩
      · rw [B_15_7]
        have a2 : cal 16 [.ref (o + 1), .int (nI 0)] 4 (sI h 47 0 (nI (strd L 0 4))) = some (some (.int 1), sI h 47 0 (nI (strd L 0 4))) := by
          have := s_Na_hasN (h := sI h 47 0 (nI (strd L 0 4))) (KO_1 (o := o) (h := sI h 47 0 (nI (strd L 0 4))) (by simpa only [kd_sI, ln_sI, hl_sI, gL_sI, gR_sI, kd_sL, ln_sL, hl_sL, gI_sL, gR_sL, kd_sR, ln_sR, hl_sR, gI_sR, gL_sR, kd_cpI, ln_cpI, hl_cpI, gL_cpI, gR_cpI, gI_cpI, gI_sI, gL_sL, gR_sR, St_sI, St_sL, St_cpI, Nat.reduceEqDiff, Nat.reduceAdd, eq_self, false_and, and_false, true_and, and_true, and_self, if_true, if_false, false_or, or_false, true_or, or_true, not_true_eq_false, not_false_eq_true, reduceIte] using hS) ho) (by omega) (n := dT L) (by rw [gI_sI, if_neg (by omega)]; exact g2) (x := nI 0) (μ := 4) (by omega)
          rw [okB_nI (by omega) c, b2i_t] at this
          exact this
        have e1' : gI (sI h 47 0 (nI (strd L 0 4))) (o + 3) 0 = nI (dSize L 0) := by rw [gI_sI, if_neg (by omega)]; exact e1
        have mm := nI_mul (strd L 0 4) (dSize L 0)
        rcases ho with rfl | rfl
        · simp (disch := first | assumption | exact b2i_01 _ | decide | omega | (simp only [kd_sI, ln_sI, hl_sI, gL_sI, gR_sI, kd_sL, ln_sL, hl_sL, gI_sL, gR_sL, kd_sR, ln_sR, hl_sR, gI_sR, gL_sR, kd_cpI, ln_cpI, hl_cpI, gL_cpI, gR_cpI, gI_cpI, gI_sI, gL_sL, gR_sR, St_sI, St_sL, St_cpI, Nat.reduceEqDiff, Nat.reduceAdd, eq_self, false_and, and_false, true_and, and_true, and_self, if_true, if_false, false_or, or_false, true_or, or_true, not_true_eq_false, not_false_eq_true, reduceIte, K_46, F_46_2, F_46_3, F_46_4, F_46_5, F_46_6, F_46_7, K_47, N_47, K_3, F_3_0, F_3_1, F_3_2, F_3_3, F_3_4, F_3_5, F_3_6, F_3_7, F_3_8, F_3_9, F_3_10, F_3_11, K_6, N_6, hS, n0, g1, c1, b, tt, a2, e10, e1', e1, mm, m1, B_15_7, lm, List.length_nil, List.length_cons, Nat.zero_le] <;> first | done | decide | omega | fail) | fail) only [B_15_0, e_aload_n_0, e_iconst_1, P_1, e_iconst_3, e_istore_n_1, clr_i, clr_l, clr_a, clr_n, e_gotow, T_15_7, e_iload_n_1, e_if_lt, G_2, G_1, e_iastore, G_0, G_500, e_call_2, psh_s, psh_n, Option.bind_some, e_if_eq, e_dup_i, e_dup_a, G_501, e_iaload, e_imul, T_15_53, B_15_53, e_iinc_1_m1, e_goto, T_15_59, B_15_59, R_15, kd_sI, ln_sI, hl_sI, gL_sI, gR_sI, kd_sL, ln_sL, hl_sL, gI_sL, gR_sL, kd_sR, ln_sR, hl_sR, gI_sR, gL_sR, kd_cpI, ln_cpI, hl_cpI, gL_cpI, gR_cpI, gI_cpI, gI_sI, gL_sL, gR_sR, St_sI, St_sL, St_cpI, Nat.reduceEqDiff, Nat.reduceAdd, eq_self, false_and, and_false, true_and, and_true, and_self, if_true, if_false, false_or, or_false, true_or, or_true, not_true_eq_false, not_false_eq_true, reduceIte, K_46, F_46_2, F_46_3, F_46_4, F_46_5, F_46_6, F_46_7, K_47, N_47, K_3, F_3_0, F_3_1, F_3_2, F_3_3, F_3_4, F_3_5, F_3_6, F_3_7, F_3_8, F_3_9, F_3_10, F_3_11, K_6, N_6, n0, g1, c1, b, tt, a2, e10, e1', e1, mm, m1, B_15_7, lm, List.length_nil, List.length_cons, Nat.zero_le]
        · simp (disch := first | assumption | exact b2i_01 _ | decide | omega | (simp only [kd_sI, ln_sI, hl_sI, gL_sI, gR_sI, kd_sL, ln_sL, hl_sL, gI_sL, gR_sL, kd_sR, ln_sR, hl_sR, gI_sR, gL_sR, kd_cpI, ln_cpI, hl_cpI, gL_cpI, gR_cpI, gI_cpI, gI_sI, gL_sL, gR_sR, St_sI, St_sL, St_cpI, Nat.reduceEqDiff, Nat.reduceAdd, eq_self, false_and, and_false, true_and, and_true, and_self, if_true, if_false, false_or, or_false, true_or, or_true, not_true_eq_false, not_false_eq_true, reduceIte, K_46, F_46_2, F_46_3, F_46_4, F_46_5, F_46_6, F_46_7, K_47, N_47, K_23, F_23_0, F_23_1, F_23_2, F_23_3, F_23_4, F_23_5, F_23_6, F_23_7, F_23_8, F_23_9, F_23_10, F_23_11, K_26, N_26, hS, n0, g1, c1, b, tt, a2, e10, e1', e1, mm, m1, B_15_7, lm, List.length_nil, List.length_cons, Nat.zero_le] <;> first | done | decide | omega | fail) | fail) only [B_15_0, e_aload_n_0, e_iconst_1, P_1, e_iconst_3, e_istore_n_1, clr_i, clr_l, clr_a, clr_n, e_gotow, T_15_7, e_iload_n_1, e_if_lt, G_2, G_1, e_iastore, G_0, G_500, e_call_2, psh_s, psh_n, Option.bind_some, e_if_eq, e_dup_i, e_dup_a, G_501, e_iaload, e_imul, T_15_53, B_15_53, e_iinc_1_m1, e_goto, T_15_59, B_15_59, R_15, kd_sI, ln_sI, hl_sI, gL_sI, gR_sI, kd_sL, ln_sL, hl_sL, gI_sL, gR_sL, kd_sR, ln_sR, hl_sR, gI_sR, gL_sR, kd_cpI, ln_cpI, hl_cpI, gL_cpI, gR_cpI, gI_cpI, gI_sI, gL_sL, gR_sR, St_sI, St_sL, St_cpI, Nat.reduceEqDiff, Nat.reduceAdd, eq_self, false_and, and_false, true_and, and_true, and_self, if_true, if_false, false_or, or_false, true_or, or_true, not_true_eq_false, not_false_eq_true, reduceIte, K_46, F_46_2, F_46_3, F_46_4, F_46_5, F_46_6, F_46_7, K_47, N_47, K_23, F_23_0, F_23_1, F_23_2, F_23_3, F_23_4, F_23_5, F_23_6, F_23_7, F_23_8, F_23_9, F_23_10, F_23_11, K_26, N_26, n0, g1, c1, b, tt, a2, e10, e1', e1, mm, m1, B_15_7, lm, List.length_nil, List.length_cons, Nat.zero_le]
      · rw [gI_sI, if_pos ⟨rfl, rfl⟩]
        unfold dNs
        rw [if_pos c, Nat.mul_comm]
      · rw [gI_sI, if_neg (by omega), gI_sI]
        by_cases q : s = 0
        · rw [if_pos ⟨rfl, q⟩, q]
        · rw [if_neg (fun z => q z.2)]
          exact c2 s (by omega) hs
    · sorry
  | succ t ih =>
    intro h ht g c1 c2
    sorry
