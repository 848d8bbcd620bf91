def ovc (L : LD) (d c : Nat) : Bool := decide (d < dC L) && ovr L c d
def ovb (L : LD) (d : Nat) : Nat → Int32
  | 0 => 0
  | c + 1 => if ovc L d c = true then ovb L d c ||| one c else ovb L d c
theorem lp_clausesOver {o d : Nat} {L : LD} {h : MH} (ho : Oo o) (g : GrC o L h) (hN : gI h 46 1 = nI (dN L)) (hN2 : dN L ≤ 256) (hA : ∀ k, k < dN L → gI h 49 k = dApp L k) (hd : d < 12) : ∀ m c (l4 : Option Value), c + m = dC L → rn 24 5 B_24_4 [some (.ref 46), some (.int (nI d)), some (.int (ovb L d c)), some (.int (nI c)), l4] [] h = some (some (.int (ovb L d (dC L))), h) := by
  have hr := Oo_rng ho
  have e10 : ((1 : Int32) = 0) = False := by simp
  have hS := g.1
  have g1 := g.2.1
  have g2 := g.2.2.1.1
  have g3 := g.2.2.1.2
  intro m
  induction m with
  | zero =>
    intro c l4 hc
    obtain rfl : c = dC L := by omega
    rw [B_24_4]
    simp (disch := first | assumption | exact b2i_01 _ | decide | omega | (simp only [kd_sI, ln_sI, hl_sI, gL_sI, gR_sI, kd_sL, ln_sL, hl_sL, gI_sL, gR_sL, kd_sR, ln_sR, hl_sR, gI_sR, gL_sR, kd_cpI, ln_cpI, hl_cpI, gL_cpI, gR_cpI, gI_cpI, gI_sI, gL_sL, gR_sR, St_sI, St_sL, St_cpI, Nat.reduceEqDiff, Nat.reduceAdd, eq_self, false_and, and_false, true_and, and_true, and_self, if_true, if_false, false_or, or_false, true_or, or_true, not_true_eq_false, not_false_eq_true, reduceIte, K_46, F_46_2, F_46_3, F_46_4, F_46_5, F_46_6, F_46_7, KO_0, KO_1, KO_2, NO_2, KO_3, NO_3, KO_4, KO_5, NO_5, KO_6, NO_6, KO_7, NO_7, KO_8, KO_9, NO_9, KO_10, NO_10, KO_11, NO_11, KO_12, NO_12, KO_13, NO_13, KO_14, NO_14, KO_15, KO_16, NO_16, KO_17, NO_17, KO_18, NO_18, KO_19, NO_19, FO_0_0, FO_0_1, FO_0_2, FO_0_3, FO_0_4, FO_0_5, FO_0_6, FO_0_7, FO_0_8, FO_0_9, FO_0_10, FO_0_11, FO_1_0, FO_4_0, FO_8_0, FO_15_0, FO_15_2, FO_15_3, FO_15_4, Oo_2, Oo_p, hS, g1, ho, g2, (eq_true (by simp (disch := omega) only [nI_lit, nI_add, lt_nI, le_nI, eq_nI] <;> omega) : (nI (dC L) ≤ nI (dC L)) = True)] <;> first | done | decide | omega | fail) | fail) only [B_24_0, e_iconst_0, e_istore_n_2, clr_i, clr_l, clr_a, clr_n, e_istore_n_3, e_gotow, T_24_4, e_iload_n_3, e_aload_n_0, G_0, G_505, G_401, e_ic_ge, e_iload_n_1, e_call_3, psh_s, psh_n, Option.bind_some, e_if_ne, e_if_eq, T_24_51, B_24_51, e_iconst_1, e_goto, T_24_55, B_24_55, T_24_56, B_24_56, e_istore_4, e_iload_4, e_iload_n_2, e_ishl, e_ior, T_24_69, B_24_69, e_iinc_3_1, T_24_75, B_24_75, R_24, kd_sI, ln_sI, hl_sI, gL_sI, gR_sI, kd_sL, ln_sL, hl_sL, gI_sL, gR_sL, kd_sR, ln_sR, hl_sR, gI_sR, gL_sR, kd_cpI, ln_cpI, hl_cpI, gL_cpI, gR_cpI, gI_cpI, gI_sI, gL_sL, gR_sR, St_sI, St_sL, St_cpI, Nat.reduceEqDiff, Nat.reduceAdd, eq_self, false_and, and_false, true_and, and_true, and_self, if_true, if_false, false_or, or_false, true_or, or_true, not_true_eq_false, not_false_eq_true, reduceIte, K_46, F_46_2, F_46_3, F_46_4, F_46_5, F_46_6, F_46_7, KO_0, KO_1, KO_2, NO_2, KO_3, NO_3, KO_4, KO_5, NO_5, KO_6, NO_6, KO_7, NO_7, KO_8, KO_9, NO_9, KO_10, NO_10, KO_11, NO_11, KO_12, NO_12, KO_13, NO_13, KO_14, NO_14, KO_15, KO_16, NO_16, KO_17, NO_17, KO_18, NO_18, KO_19, NO_19, FO_0_0, FO_0_1, FO_0_2, FO_0_3, FO_0_4, FO_0_5, FO_0_6, FO_0_7, FO_0_8, FO_0_9, FO_0_10, FO_0_11, FO_1_0, FO_4_0, FO_8_0, FO_15_0, FO_15_2, FO_15_3, FO_15_4, Oo_2, Oo_p, g1, ho, g2, (eq_true (by simp (disch := omega) only [nI_lit, nI_add, lt_nI, le_nI, eq_nI] <;> omega) : (nI (dC L) ≤ nI (dC L)) = True)]
  | succ m ih =>
    intro c l4 hc
    have f1 := s_Or_isToldOver ho g (show c < dC L by omega) hd (μ := 5) (by omega)
    have f2 := s_Or_areByNarrow ho g (show c < dC L by omega) hd (μ := 5) (by omega)
    have f3 := s_Ca_isNarrower (c := c) (d := d) hS hN hN2 hA (by omega) hd (μ := 5) (by omega)
    have lt : (nI (dC L) ≤ nI c) = False := (eq_false (by simp (disch := omega) only [nI_lit, nI_add, lt_nI, le_nI, eq_nI] <;> omega) : (nI (dC L) ≤ nI c) = False)
    have o1 : (1 : Int32) <<< (nI c &&& 31) = one c := rfl
    have eq : ovc L d c = ((decide (d < dC L) && decide (¬ c = d ∧ dHome L c = dHome L d) && (tbt (dTold L c) d || (decide (dHow L (dHome L c) = 1) && decide (d < c)))) || ((decide (d < dC L) && decide (¬ c = d ∧ dHome L c = dHome L d) && decide (dHow L (dHome L c) = 2)) && nar L c d)) := by
      unfold ovc ovr
      cases decide (d < dC L) with
      | false => simp
      | true =>
        cases decide (¬ c = d ∧ dHome L c = dHome L d) with
        | false => simp
        | true =>
          by_cases q : dHow L (dHome L c) = 1
          · rw [if_pos q, decide_eq_true q, decide_eq_false (p := dHow L (dHome L c) = 2) (by rw [q]; decide)]
            simp
          · rw [if_neg q, decide_eq_false q]
            simp
    generalize (decide (d < dC L) && decide (¬ c = d ∧ dHome L c = dHome L d) && (tbt (dTold L c) d || (decide (dHow L (dHome L c) = 1) && decide (d < c)))) = x at f1 eq
    generalize (decide (d < dC L) && decide (¬ c = d ∧ dHome L c = dHome L d) && decide (dHow L (dHome L c) = 2)) = y at f2 eq
    generalize nar L c d = z at f3 eq
    cases x with
    | true =>
      rw [b2i_t] at f1
      have gg := ih (c + 1) (some (.int 1)) (by omega)
      rw [show ovb L d (c + 1) = ovb L d c ||| one c from if_pos (by rw [eq]; rfl)] at gg
      rw [← gg]
      conv => lhs; rw [B_24_4]
      simp (disch := first | assumption | exact b2i_01 _ | decide | omega | (simp only [kd_sI, ln_sI, hl_sI, gL_sI, gR_sI, kd_sL, ln_sL, hl_sL, gI_sL, gR_sL, kd_sR, ln_sR, hl_sR, gI_sR, gL_sR, kd_cpI, ln_cpI, hl_cpI, gL_cpI, gR_cpI, gI_cpI, gI_sI, gL_sL, gR_sR, St_sI, St_sL, St_cpI, Nat.reduceEqDiff, Nat.reduceAdd, eq_self, false_and, and_false, true_and, and_true, and_self, if_true, if_false, false_or, or_false, true_or, or_true, not_true_eq_false, not_false_eq_true, reduceIte, K_46, F_46_2, F_46_3, F_46_4, F_46_5, F_46_6, F_46_7, KO_0, KO_1, KO_2, NO_2, KO_3, NO_3, KO_4, KO_5, NO_5, KO_6, NO_6, KO_7, NO_7, KO_8, KO_9, NO_9, KO_10, NO_10, KO_11, NO_11, KO_12, NO_12, KO_13, NO_13, KO_14, NO_14, KO_15, KO_16, NO_16, KO_17, NO_17, KO_18, NO_18, KO_19, NO_19, FO_0_0, FO_0_1, FO_0_2, FO_0_3, FO_0_4, FO_0_5, FO_0_6, FO_0_7, FO_0_8, FO_0_9, FO_0_10, FO_0_11, FO_1_0, FO_4_0, FO_8_0, FO_15_0, FO_15_2, FO_15_3, FO_15_4, Oo_2, Oo_p, hS, g1, ho, g2, lt, f1, e10, o1, nI_1, List.length_nil, List.length_cons, Nat.zero_le] <;> first | done | decide | omega | fail) | fail) only [B_24_0, e_iconst_0, e_istore_n_2, clr_i, clr_l, clr_a, clr_n, e_istore_n_3, e_gotow, T_24_4, e_iload_n_3, e_aload_n_0, G_0, G_505, G_401, e_ic_ge, e_iload_n_1, e_call_3, psh_s, psh_n, Option.bind_some, e_if_ne, e_if_eq, T_24_51, B_24_51, e_iconst_1, e_goto, T_24_55, B_24_55, T_24_56, B_24_56, e_istore_4, e_iload_4, e_iload_n_2, e_ishl, e_ior, T_24_69, B_24_69, e_iinc_3_1, T_24_75, B_24_75, R_24, kd_sI, ln_sI, hl_sI, gL_sI, gR_sI, kd_sL, ln_sL, hl_sL, gI_sL, gR_sL, kd_sR, ln_sR, hl_sR, gI_sR, gL_sR, kd_cpI, ln_cpI, hl_cpI, gL_cpI, gR_cpI, gI_cpI, gI_sI, gL_sL, gR_sR, St_sI, St_sL, St_cpI, Nat.reduceEqDiff, Nat.reduceAdd, eq_self, false_and, and_false, true_and, and_true, and_self, if_true, if_false, false_or, or_false, true_or, or_true, not_true_eq_false, not_false_eq_true, reduceIte, K_46, F_46_2, F_46_3, F_46_4, F_46_5, F_46_6, F_46_7, KO_0, KO_1, KO_2, NO_2, KO_3, NO_3, KO_4, KO_5, NO_5, KO_6, NO_6, KO_7, NO_7, KO_8, KO_9, NO_9, KO_10, NO_10, KO_11, NO_11, KO_12, NO_12, KO_13, NO_13, KO_14, NO_14, KO_15, KO_16, NO_16, KO_17, NO_17, KO_18, NO_18, KO_19, NO_19, FO_0_0, FO_0_1, FO_0_2, FO_0_3, FO_0_4, FO_0_5, FO_0_6, FO_0_7, FO_0_8, FO_0_9, FO_0_10, FO_0_11, FO_1_0, FO_4_0, FO_8_0, FO_15_0, FO_15_2, FO_15_3, FO_15_4, Oo_2, Oo_p, g1, ho, g2, lt, f1, e10, o1, nI_1, List.length_nil, List.length_cons, Nat.zero_le]
    | false =>
      rw [b2i_f] at f1
      cases y with
      | false =>
        rw [b2i_f] at f2
        have gg := ih (c + 1) (some (.int 0)) (by omega)
        rw [show ovb L d (c + 1) = ovb L d c from if_neg (by rw [eq]; simp)] at gg
        rw [← gg]
        conv => lhs; rw [B_24_4]
        simp (disch := first | assumption | exact b2i_01 _ | decide | omega | (simp only [kd_sI, ln_sI, hl_sI, gL_sI, gR_sI, kd_sL, ln_sL, hl_sL, gI_sL, gR_sL, kd_sR, ln_sR, hl_sR, gI_sR, gL_sR, kd_cpI, ln_cpI, hl_cpI, gL_cpI, gR_cpI, gI_cpI, gI_sI, gL_sL, gR_sR, St_sI, St_sL, St_cpI, Nat.reduceEqDiff, Nat.reduceAdd, eq_self, false_and, and_false, true_and, and_true, and_self, if_true, if_false, false_or, or_false, true_or, or_true, not_true_eq_false, not_false_eq_true, reduceIte, K_46, F_46_2, F_46_3, F_46_4, F_46_5, F_46_6, F_46_7, KO_0, KO_1, KO_2, NO_2, KO_3, NO_3, KO_4, KO_5, NO_5, KO_6, NO_6, KO_7, NO_7, KO_8, KO_9, NO_9, KO_10, NO_10, KO_11, NO_11, KO_12, NO_12, KO_13, NO_13, KO_14, NO_14, KO_15, KO_16, NO_16, KO_17, NO_17, KO_18, NO_18, KO_19, NO_19, FO_0_0, FO_0_1, FO_0_2, FO_0_3, FO_0_4, FO_0_5, FO_0_6, FO_0_7, FO_0_8, FO_0_9, FO_0_10, FO_0_11, FO_1_0, FO_4_0, FO_8_0, FO_15_0, FO_15_2, FO_15_3, FO_15_4, Oo_2, Oo_p, hS, g1, ho, g2, lt, f1, f2, e10, o1, nI_1, List.length_nil, List.length_cons, Nat.zero_le] <;> first | done | decide | omega | fail) | fail) only [B_24_0, e_iconst_0, e_istore_n_2, clr_i, clr_l, clr_a, clr_n, e_istore_n_3, e_gotow, T_24_4, e_iload_n_3, e_aload_n_0, G_0, G_505, G_401, e_ic_ge, e_iload_n_1, e_call_3, psh_s, psh_n, Option.bind_some, e_if_ne, e_if_eq, T_24_51, B_24_51, e_iconst_1, e_goto, T_24_55, B_24_55, T_24_56, B_24_56, e_istore_4, e_iload_4, e_iload_n_2, e_ishl, e_ior, T_24_69, B_24_69, e_iinc_3_1, T_24_75, B_24_75, R_24, kd_sI, ln_sI, hl_sI, gL_sI, gR_sI, kd_sL, ln_sL, hl_sL, gI_sL, gR_sL, kd_sR, ln_sR, hl_sR, gI_sR, gL_sR, kd_cpI, ln_cpI, hl_cpI, gL_cpI, gR_cpI, gI_cpI, gI_sI, gL_sL, gR_sR, St_sI, St_sL, St_cpI, Nat.reduceEqDiff, Nat.reduceAdd, eq_self, false_and, and_false, true_and, and_true, and_self, if_true, if_false, false_or, or_false, true_or, or_true, not_true_eq_false, not_false_eq_true, reduceIte, K_46, F_46_2, F_46_3, F_46_4, F_46_5, F_46_6, F_46_7, KO_0, KO_1, KO_2, NO_2, KO_3, NO_3, KO_4, KO_5, NO_5, KO_6, NO_6, KO_7, NO_7, KO_8, KO_9, NO_9, KO_10, NO_10, KO_11, NO_11, KO_12, NO_12, KO_13, NO_13, KO_14, NO_14, KO_15, KO_16, NO_16, KO_17, NO_17, KO_18, NO_18, KO_19, NO_19, FO_0_0, FO_0_1, FO_0_2, FO_0_3, FO_0_4, FO_0_5, FO_0_6, FO_0_7, FO_0_8, FO_0_9, FO_0_10, FO_0_11, FO_1_0, FO_4_0, FO_8_0, FO_15_0, FO_15_2, FO_15_3, FO_15_4, Oo_2, Oo_p, g1, ho, g2, lt, f1, f2, e10, o1, nI_1, List.length_nil, List.length_cons, Nat.zero_le]
      | true =>
        rw [b2i_t] at f2
        cases z with
        | false =>
          rw [b2i_f] at f3
          have gg := ih (c + 1) (some (.int 0)) (by omega)
          rw [show ovb L d (c + 1) = ovb L d c from if_neg (by rw [eq]; simp)] at gg
          rw [← gg]
          conv => lhs; rw [B_24_4]
          simp (disch := first | assumption | exact b2i_01 _ | decide | omega | (simp only [kd_sI, ln_sI, hl_sI, gL_sI, gR_sI, kd_sL, ln_sL, hl_sL, gI_sL, gR_sL, kd_sR, ln_sR, hl_sR, gI_sR, gL_sR, kd_cpI, ln_cpI, hl_cpI, gL_cpI, gR_cpI, gI_cpI, gI_sI, gL_sL, gR_sR, St_sI, St_sL, St_cpI, Nat.reduceEqDiff, Nat.reduceAdd, eq_self, false_and, and_false, true_and, and_true, and_self, if_true, if_false, false_or, or_false, true_or, or_true, not_true_eq_false, not_false_eq_true, reduceIte, K_46, F_46_2, F_46_3, F_46_4, F_46_5, F_46_6, F_46_7, KO_0, KO_1, KO_2, NO_2, KO_3, NO_3, KO_4, KO_5, NO_5, KO_6, NO_6, KO_7, NO_7, KO_8, KO_9, NO_9, KO_10, NO_10, KO_11, NO_11, KO_12, NO_12, KO_13, NO_13, KO_14, NO_14, KO_15, KO_16, NO_16, KO_17, NO_17, KO_18, NO_18, KO_19, NO_19, FO_0_0, FO_0_1, FO_0_2, FO_0_3, FO_0_4, FO_0_5, FO_0_6, FO_0_7, FO_0_8, FO_0_9, FO_0_10, FO_0_11, FO_1_0, FO_4_0, FO_8_0, FO_15_0, FO_15_2, FO_15_3, FO_15_4, Oo_2, Oo_p, hS, g1, ho, g2, lt, f1, f2, f3, e10, o1, nI_1, List.length_nil, List.length_cons, Nat.zero_le] <;> first | done | decide | omega | fail) | fail) only [B_24_0, e_iconst_0, e_istore_n_2, clr_i, clr_l, clr_a, clr_n, e_istore_n_3, e_gotow, T_24_4, e_iload_n_3, e_aload_n_0, G_0, G_505, G_401, e_ic_ge, e_iload_n_1, e_call_3, psh_s, psh_n, Option.bind_some, e_if_ne, e_if_eq, T_24_51, B_24_51, e_iconst_1, e_goto, T_24_55, B_24_55, T_24_56, B_24_56, e_istore_4, e_iload_4, e_iload_n_2, e_ishl, e_ior, T_24_69, B_24_69, e_iinc_3_1, T_24_75, B_24_75, R_24, kd_sI, ln_sI, hl_sI, gL_sI, gR_sI, kd_sL, ln_sL, hl_sL, gI_sL, gR_sL, kd_sR, ln_sR, hl_sR, gI_sR, gL_sR, kd_cpI, ln_cpI, hl_cpI, gL_cpI, gR_cpI, gI_cpI, gI_sI, gL_sL, gR_sR, St_sI, St_sL, St_cpI, Nat.reduceEqDiff, Nat.reduceAdd, eq_self, false_and, and_false, true_and, and_true, and_self, if_true, if_false, false_or, or_false, true_or, or_true, not_true_eq_false, not_false_eq_true, reduceIte, K_46, F_46_2, F_46_3, F_46_4, F_46_5, F_46_6, F_46_7, KO_0, KO_1, KO_2, NO_2, KO_3, NO_3, KO_4, KO_5, NO_5, KO_6, NO_6, KO_7, NO_7, KO_8, KO_9, NO_9, KO_10, NO_10, KO_11, NO_11, KO_12, NO_12, KO_13, NO_13, KO_14, NO_14, KO_15, KO_16, NO_16, KO_17, NO_17, KO_18, NO_18, KO_19, NO_19, FO_0_0, FO_0_1, FO_0_2, FO_0_3, FO_0_4, FO_0_5, FO_0_6, FO_0_7, FO_0_8, FO_0_9, FO_0_10, FO_0_11, FO_1_0, FO_4_0, FO_8_0, FO_15_0, FO_15_2, FO_15_3, FO_15_4, Oo_2, Oo_p, g1, ho, g2, lt, f1, f2, f3, e10, o1, nI_1, List.length_nil, List.length_cons, Nat.zero_le]
        | true =>
          rw [b2i_t] at f3
          have gg := ih (c + 1) (some (.int 1)) (by omega)
          rw [show ovb L d (c + 1) = ovb L d c ||| one c from if_pos (by rw [eq]; rfl)] at gg
          rw [← gg]
          conv => lhs; rw [B_24_4]
          simp (disch := first | assumption | exact b2i_01 _ | decide | omega | (simp only [kd_sI, ln_sI, hl_sI, gL_sI, gR_sI, kd_sL, ln_sL, hl_sL, gI_sL, gR_sL, kd_sR, ln_sR, hl_sR, gI_sR, gL_sR, kd_cpI, ln_cpI, hl_cpI, gL_cpI, gR_cpI, gI_cpI, gI_sI, gL_sL, gR_sR, St_sI, St_sL, St_cpI, Nat.reduceEqDiff, Nat.reduceAdd, eq_self, false_and, and_false, true_and, and_true, and_self, if_true, if_false, false_or, or_false, true_or, or_true, not_true_eq_false, not_false_eq_true, reduceIte, K_46, F_46_2, F_46_3, F_46_4, F_46_5, F_46_6, F_46_7, KO_0, KO_1, KO_2, NO_2, KO_3, NO_3, KO_4, KO_5, NO_5, KO_6, NO_6, KO_7, NO_7, KO_8, KO_9, NO_9, KO_10, NO_10, KO_11, NO_11, KO_12, NO_12, KO_13, NO_13, KO_14, NO_14, KO_15, KO_16, NO_16, KO_17, NO_17, KO_18, NO_18, KO_19, NO_19, FO_0_0, FO_0_1, FO_0_2, FO_0_3, FO_0_4, FO_0_5, FO_0_6, FO_0_7, FO_0_8, FO_0_9, FO_0_10, FO_0_11, FO_1_0, FO_4_0, FO_8_0, FO_15_0, FO_15_2, FO_15_3, FO_15_4, Oo_2, Oo_p, hS, g1, ho, g2, lt, f1, f2, f3, e10, o1, nI_1, List.length_nil, List.length_cons, Nat.zero_le] <;> first | done | decide | omega | fail) | fail) only [B_24_0, e_iconst_0, e_istore_n_2, clr_i, clr_l, clr_a, clr_n, e_istore_n_3, e_gotow, T_24_4, e_iload_n_3, e_aload_n_0, G_0, G_505, G_401, e_ic_ge, e_iload_n_1, e_call_3, psh_s, psh_n, Option.bind_some, e_if_ne, e_if_eq, T_24_51, B_24_51, e_iconst_1, e_goto, T_24_55, B_24_55, T_24_56, B_24_56, e_istore_4, e_iload_4, e_iload_n_2, e_ishl, e_ior, T_24_69, B_24_69, e_iinc_3_1, T_24_75, B_24_75, R_24, kd_sI, ln_sI, hl_sI, gL_sI, gR_sI, kd_sL, ln_sL, hl_sL, gI_sL, gR_sL, kd_sR, ln_sR, hl_sR, gI_sR, gL_sR, kd_cpI, ln_cpI, hl_cpI, gL_cpI, gR_cpI, gI_cpI, gI_sI, gL_sL, gR_sR, St_sI, St_sL, St_cpI, Nat.reduceEqDiff, Nat.reduceAdd, eq_self, false_and, and_false, true_and, and_true, and_self, if_true, if_false, false_or, or_false, true_or, or_true, not_true_eq_false, not_false_eq_true, reduceIte, K_46, F_46_2, F_46_3, F_46_4, F_46_5, F_46_6, F_46_7, KO_0, KO_1, KO_2, NO_2, KO_3, NO_3, KO_4, KO_5, NO_5, KO_6, NO_6, KO_7, NO_7, KO_8, KO_9, NO_9, KO_10, NO_10, KO_11, NO_11, KO_12, NO_12, KO_13, NO_13, KO_14, NO_14, KO_15, KO_16, NO_16, KO_17, NO_17, KO_18, NO_18, KO_19, NO_19, FO_0_0, FO_0_1, FO_0_2, FO_0_3, FO_0_4, FO_0_5, FO_0_6, FO_0_7, FO_0_8, FO_0_9, FO_0_10, FO_0_11, FO_1_0, FO_4_0, FO_8_0, FO_15_0, FO_15_2, FO_15_3, FO_15_4, Oo_2, Oo_p, g1, ho, g2, lt, f1, f2, f3, e10, o1, nI_1, List.length_nil, List.length_cons, Nat.zero_le]
theorem s_Ca_clausesOver {o d : Nat} {L : LD} {h : MH} (ho : Oo o) (g : GrC o L h) (hN : gI h 46 1 = nI (dN L)) (hN2 : dN L ≤ 256) (hA : ∀ k, k < dN L → gI h 49 k = dApp L k) (hd : d < 12) {μ : Nat} (hμ : 5 < μ) : cal 24 [.ref 46, .int (nI d)] μ h = some (some (.int (ovb L d (dC L))), h) := by
  have k := lp_clausesOver ho g hN hN2 hA hd (dC L) 0 none (by omega)
  have hS := g.1
  rw [C_24 46 _ μ _ (K_46 hS) (by decide) hμ]
  simp (disch := first | assumption | exact b2i_01 _ | decide | omega | (simp only [kd_sI, ln_sI, hl_sI, gL_sI, gR_sI, kd_sL, ln_sL, hl_sL, gI_sL, gR_sL, kd_sR, ln_sR, hl_sR, gI_sR, gL_sR, kd_cpI, ln_cpI, hl_cpI, gL_cpI, gR_cpI, gI_cpI, gI_sI, gL_sL, gR_sR, St_sI, St_sL, St_cpI, Nat.reduceEqDiff, Nat.reduceAdd, eq_self, false_and, and_false, true_and, and_true, and_self, if_true, if_false, false_or, or_false, true_or, or_true, not_true_eq_false, not_false_eq_true, reduceIte, K_46, F_46_2, F_46_3, F_46_4, F_46_5, F_46_6, F_46_7, hS] <;> first | done | decide | omega | fail) | fail) only [B_24_0, e_iconst_0, e_istore_n_2, clr_i, clr_l, clr_a, clr_n, e_istore_n_3, e_gotow, T_24_4, e_iload_n_3, e_aload_n_0, G_0, G_505, G_401, e_ic_ge, e_iload_n_1, e_call_3, psh_s, psh_n, Option.bind_some, e_if_ne, e_if_eq, T_24_51, B_24_51, e_iconst_1, e_goto, T_24_55, B_24_55, T_24_56, B_24_56, e_istore_4, e_iload_4, e_iload_n_2, e_ishl, e_ior, T_24_69, B_24_69, e_iinc_3_1, T_24_75, B_24_75, R_24, kd_sI, ln_sI, hl_sI, gL_sI, gR_sI, kd_sL, ln_sL, hl_sL, gI_sL, gR_sL, kd_sR, ln_sR, hl_sR, gI_sR, gL_sR, kd_cpI, ln_cpI, hl_cpI, gL_cpI, gR_cpI, gI_cpI, gI_sI, gL_sL, gR_sR, St_sI, St_sL, St_cpI, Nat.reduceEqDiff, Nat.reduceAdd, eq_self, false_and, and_false, true_and, and_true, and_self, if_true, if_false, false_or, or_false, true_or, or_true, not_true_eq_false, not_false_eq_true, reduceIte, K_46, F_46_2, F_46_3, F_46_4, F_46_5, F_46_6, F_46_7]
  exact k
/-! an orchard is grown -/
def Am2 (o : Nat) (L : LD) (FA : List (Int32 × Int32)) (sa : Nat) (am : Bool) (h : MH) : Prop := (am = false ∧ gI h (o + 18) 12 = 0) ∨ (am = true ∧ gI h (o + 17) 12 = nI sa ∧ gI h (o + 18) 12 = nI (sa + FA.length) ∧ sa + FA.length ≤ 640 ∧ (∀ j st, FA[j]? = some st → gI h (o + 16) (sa + j) = cdo st) ∧ WfS (dT L) FA 0)
def amv (L : LD) (FA : List (Int32 × Int32)) (am : Bool) (k : Nat) : Int32 := if am = true then fv L (fun _ => FA) 0 k else 0
theorem Am2.eq {o sa : Nat} {L : LD} {FA : List (Int32 × Int32)} {am : Bool} {h h' : MH} (f : Am2 o L FA sa am h) (e : ∀ y j, (y = 16 ∨ y = 17 ∨ y = 18) → gI h' (o + y) j = gI h (o + y) j) : Am2 o L FA sa am h' := by
  rcases f with ⟨a, b⟩ | ⟨a, b, c, d, x, y⟩
  · exact Or.inl ⟨a, by rw [e _ _ (by omega)]; exact b⟩
  · exact Or.inr ⟨a, by rw [e _ _ (by omega)]; exact b, by rw [e _ _ (by omega)]; exact c, d, fun j st hj => by rw [e _ _ (by omega)]; exact x j st hj, y⟩
theorem s_aim {o sa k : Nat} {L : LD} {FA : List (Int32 × Int32)} {am : Bool} {h : MH} (ho : Oo o) (hB : SzB L) (g : GrO o L h) (f : Am2 o L FA sa am h) (rw' : ∀ t, t < dT L → gI h 48 t = nI (val L k t)) {μ : Nat} (hμ : 5 < μ) : ∃ h', cal 20 [.ref (o + 15), .int 12, .ref 48] μ h = some (some (.int (amv L FA am k)), h') ∧ Sm h h' [(o + 19, none)] := by
  rcases f with ⟨a, b⟩ | ⟨a, b, c, d, x, y⟩
  · refine ⟨h, ?_, Sm.rf h _⟩
    unfold amv
    rw [a, if_neg (by decide)]
    exact s_Fo_value0 g.1 ho b hμ
  · have e := fv_e (L := L) (Fs := fun _ => FA) (c := 0) (k := k) y
    unfold amv
    rw [a, if_pos rfl]
    exact s_Fo_valueOf (w := 12) (tv := tvl L k) (T := dT L) ho ⟨g.1, ⟨b, c, d, by omega⟩, x, fun t ht => by
      rw [rw' t ht]
      unfold tvl
      rw [tc_nI (by have := hB.1; omega)], hB.1⟩ y e hμ
def WGr (o : Nat) : WL := [(46, some 0), (46, some 1), (47, none), (48, none), (49, none), (50, none), (51, none), (52, none), (o + 19, none)]
theorem stb_WGr {o : Nat} (ho : Oo o) : RTB.all (fun q => !wr (WGr o) q.1 q.2.1) = true := by
  rcases ho with rfl | rfl <;> decide +kernel
theorem wGr {o a j : Nat} (h : wr (WGr o) a j = true) : (a = 46 ∧ j ≤ 1) ∨ (47 ≤ a ∧ a ≤ 52) ∨ a = o + 19 := by
  unfold WGr wr wr1 at h
  simp only [List.any_cons, List.any_nil, Bool.or_eq_true, Bool.and_eq_true, beq_iff_eq, Bool.false_eq_true, or_false] at h
  omega
theorem wGr_no {o a j : Nat} (h : ¬ ((a = 46 ∧ j ≤ 1) ∨ (47 ≤ a ∧ a ≤ 52) ∨ a = o + 19)) : wr (WGr o) a j = false := by
  cases c : wr (WGr o) a j with
  | false => rfl
  | true => exact absurd (wGr c) h
theorem lp_grow1 {o sa : Nat} {L : LD} {Fs : Nat → List (Int32 × Int32)} {ss : Nat → Nat} {FA : List (Int32 × Int32)} {am : Bool} (ho : Oo o) (hB : SzB L) (hN2 : dNs L ≤ 256) : ∀ m k h, k + m = dNs L → GrO o L h → Fo2 o L Fs ss h → Am2 o L FA sa am h → gI h 46 1 = nI (dNs L) → (∀ s, s < 4 → gI h 47 s = nI (strd L s 4)) → (∀ j, j < k → gI h 49 j = apv L Fs j (dC L) ∧ gI h 50 j = amv L FA am j) → ∃ h', rn 14 7 B_14_11 [some (.ref 46), some (.ref o), some (.int (nI k))] [] h = rn 14 7 B_14_70 [some (.ref 46), some (.ref o), some (.int (nI (dNs L)))] [] h' ∧ GrO o L h' ∧ (∀ j, j < dNs L → gI h' 49 j = apv L Fs j (dC L) ∧ gI h' 50 j = amv L FA am j) ∧ Sm h h' [(48, none), (49, none), (50, none), (o + 19, none)] := by
  have hr := Oo_rng ho
  intro m
  induction m with
  | zero =>
    intro k h hk g f a c1 c2 c3
    obtain rfl : k = dNs L := by omega
    have hS := g.1
    refine ⟨h, ?_, g, c3, Sm.rf h _⟩
    conv => lhs; rw [B_14_11]
    simp (disch := first | assumption | exact b2i_01 _ | decide | omega | (simp only [kd_sI, ln_sI, hl_sI, gL_sI, gR_sI, kd_sL, ln_sL, hl_sL, gI_sL, gR_sL, kd_sR, ln_sR, hl_sR, gI_sR, gL_sR, kd_cpI, ln_cpI, hl_cpI, gL_cpI, gR_cpI, gI_cpI, gI_sI, gL_sL, gR_sR, St_sI, St_sL, St_cpI, Nat.reduceEqDiff, Nat.reduceAdd, eq_self, false_and, and_false, true_and, and_true, and_self, if_true, if_false, false_or, or_false, true_or, or_true, not_true_eq_false, not_false_eq_true, reduceIte, K_46, F_46_2, F_46_3, F_46_4, F_46_5, F_46_6, F_46_7, hS, c1, (eq_true (by simp (disch := omega) only [nI_lit, nI_add, lt_nI, le_nI, eq_nI] <;> omega) : (nI (dNs L) ≤ nI (dNs L)) = True)] <;> first | done | decide | omega | fail) | fail) only [B_14_0, e_aload_n_0, e_aload_n_1, P_0, e_call_1, psh_s, psh_n, Option.bind_some, e_iconst_0, e_istore_n_2, clr_i, clr_l, clr_a, clr_n, e_gotow, T_14_11, e_iload_n_2, G_1, e_ic_ge, e_sipush_256, e_call_2, G_4, e_i2s, e_sastore, G_5, G_0, G_511, e_bipush_12, G_3, e_call_3, e_iastore, e_iinc_2_1, e_goto, T_14_70, T_14_72, B_14_72, G_6, T_14_95, B_14_95, G_7, e_bipush_m3, R_14, kd_sI, ln_sI, hl_sI, gL_sI, gR_sI, kd_sL, ln_sL, hl_sL, gI_sL, gR_sL, kd_sR, ln_sR, hl_sR, gI_sR, gL_sR, kd_cpI, ln_cpI, hl_cpI, gL_cpI, gR_cpI, gI_cpI, gI_sI, gL_sL, gR_sR, St_sI, St_sL, St_cpI, Nat.reduceEqDiff, Nat.reduceAdd, eq_self, false_and, and_false, true_and, and_true, and_self, if_true, if_false, false_or, or_false, true_or, or_true, not_true_eq_false, not_false_eq_true, reduceIte, K_46, F_46_2, F_46_3, F_46_4, F_46_5, F_46_6, F_46_7, c1, (eq_true (by simp (disch := omega) only [nI_lit, nI_add, lt_nI, le_nI, eq_nI] <;> omega) : (nI (dNs L) ≤ nI (dNs L)) = True)]
  | succ m ih =>
    intro k h hk g f a c1 c2 c3
    have hS := g.1
    have g1 := g.2.1
    obtain ⟨h1, k1, g1', k2, k3⟩ := s_Ca_fillRow (k := k) ho hB (by omega) g c2 (μ := 7) (by omega)
    have I1 : ∀ {b j : Nat}, ¬ b = 48 → gI h1 b j = gI h b j := fun q => k3.I (by
      unfold wr wr1
      simp only [List.any_cons, List.any_nil, show (48 == _) = false by simpa using fun z : 48 = _ => q z.symm, Bool.false_and, Bool.or_self])
    have f1 := f.eq (h' := h1) (fun y j _ => I1 (by omega))
    have a1 := a.eq (h' := h1) (fun y j _ => I1 (by omega))
    obtain ⟨h2, k4, k5⟩ := s_Ca_clausesOfRow (k := k) ho hB g1' f1 k2 (μ := 7) (by omega)
    have I2 : ∀ {b j : Nat}, ¬ b = o + 19 → gI h2 b j = gI h1 b j := fun q => k5.I (w19_no q)
    have hS1 := g1'.1
    have hS2 := k5.St hS1 (stb_o19 ho)
    obtain ⟨n, n1, n2⟩ := apv_n L Fs k (dC L) f.1.2
    have hC12 := pw12 f.1.2
    have b : inBd (nI k) 256 = true := inBd_nI (by omega) (by omega)
    have tt := tc_nI (show k < 2147483648 by omega)
    let h3 := sI h2 49 k (nI n)
    have hS3 : St h3 := by show St (sI h2 49 k (nI n)); simpa only [kd_sI, ln_sI, hl_sI, gL_sI, gR_sI, kd_sL, ln_sL, hl_sL, gI_sL, gR_sL, kd_sR, ln_sR, hl_sR, gI_sR, gL_sR, kd_cpI, ln_cpI, hl_cpI, gL_cpI, gR_cpI, gI_cpI, gI_sI, gL_sL, gR_sR, St_sI, St_sL, St_cpI, Nat.reduceEqDiff, Nat.reduceAdd, eq_self, false_and, and_false, true_and, and_true, and_self, if_true, if_false, false_or, or_false, true_or, or_true, not_true_eq_false, not_false_eq_true, reduceIte] using hS2
    have g2 : GrO o L h2 := g1'.eq hS2 (k5.R (w19_no (by omega))) (fun y j _ => I2 (by omega))
    have g3 : GrO o L h3 := GrO.sI g2 hS3 (by omega)
    have a3 : Am2 o L FA sa am h3 := a1.eq (fun y j _ => by
      show gI (sI h2 49 k (nI n)) _ _ = _
      rw [gI_sI, if_neg (by omega), I2 (by omega)])
    obtain ⟨h4, k6, k7⟩ := s_aim (k := k) ho hB g3 a3 (fun t ht => by
      show gI (sI h2 49 k (nI n)) _ _ = _
      rw [gI_sI, if_neg (by omega), I2 (by omega)]
      exact k2 t ht) (μ := 7) (by omega)
    have hS4 := k7.St hS3 (stb_o19 ho)
    have I4 : ∀ {b j : Nat}, ¬ b = o + 19 → gI h4 b j = gI h3 b j := fun q => k7.I (w19_no q)
    let h5 := sI h4 50 k (amv L FA am k)
    have hS5 : St h5 := by show St (sI h4 50 k (amv L FA am k)); simpa only [kd_sI, ln_sI, hl_sI, gL_sI, gR_sI, kd_sL, ln_sL, hl_sL, gI_sL, gR_sL, kd_sR, ln_sR, hl_sR, gI_sR, gL_sR, kd_cpI, ln_cpI, hl_cpI, gL_cpI, gR_cpI, gI_cpI, gI_sI, gL_sL, gR_sR, St_sI, St_sL, St_cpI, Nat.reduceEqDiff, Nat.reduceAdd, eq_self, false_and, and_false, true_and, and_true, and_self, if_true, if_false, false_or, or_false, true_or, or_true, not_true_eq_false, not_false_eq_true, reduceIte] using hS4
    have I5 : ∀ {b j : Nat}, ¬ b = o + 19 → ¬ b = 48 → ¬ (b = 49 ∧ j = k) → ¬ (b = 50 ∧ j = k) → gI h5 b j = gI h b j := fun q1 q2 q3 q4 => by
      show gI (sI h4 50 k (amv L FA am k)) _ _ = _
      rw [gI_sI, if_neg q4, I4 q1]
      show gI (sI h2 49 k (nI n)) _ _ = _
      rw [gI_sI, if_neg q3, I2 q1, I1 q2]
    have g4 : GrO o L h4 := g3.eq hS4 (k7.R (w19_no (by omega))) (fun y j _ => I4 (by omega))
    have g5 : GrO o L h5 := GrO.sI g4 hS5 (by omega)
    have l1 : Sm h h5 [(48, none), (49, none), (50, none), (o + 19, none)] := by
      have m1 : ∀ q ∈ [(48, (none : Option Nat))], q ∈ [(48, none), (49, none), (50, none), (o + 19, none)] := by simp
      have m2 : ∀ q ∈ [(o + 19, (none : Option Nat))], q ∈ [(48, none), (49, none), (50, none), (o + 19, none)] := by simp
      exact ((((k3.mono m1).trans (k5.mono m2)).sI (by simp [wr, wr1])).trans (k7.mono m2)).sI (by simp [wr, wr1])
    obtain ⟨h6, z1, z2, z3, z4⟩ := ih (k + 1) h5 (by omega) g5 (f.eq (fun y j _ => I5 (by omega) (by omega) (by omega) (by omega))) (a.eq (fun y j _ => I5 (by omega) (by omega) (by omega) (by omega))) (by rw [I5 (by omega) (by omega) (by omega) (by omega)]; exact c1) (fun s hs => by rw [I5 (by omega) (by omega) (by omega) (by omega)]; exact c2 s hs) (fun j hj => by
      by_cases q : j = k
      · subst q
        refine ⟨?_, by show gI (sI h4 50 j (amv L FA am j)) 50 j = _; rw [gI_sI, if_pos ⟨rfl, rfl⟩]⟩
        show gI (sI h4 50 j (amv L FA am j)) 49 j = _
        rw [gI_sI, if_neg (by omega), I4 (by omega)]
        show gI (sI h2 49 j (nI n)) 49 j = _
        rw [gI_sI, if_pos ⟨rfl, rfl⟩, n2]
      · rw [I5 (by omega) (by omega) (by omega) (by omega), I5 (by omega) (by omega) (by omega) (by omega)]
        exact c3 j (by omega))
    refine ⟨h6, ?_, z2, z3, l1.trans z4⟩
    rw [← z1]
    have i16 := i16_nI2 (s := n) (by omega)
    have lt : (nI (dNs L) ≤ nI k) = False := (eq_false (by simp (disch := omega) only [nI_lit, nI_add, lt_nI, le_nI, eq_nI] <;> omega) : (nI (dNs L) ≤ nI k) = False)
    have lt2 : ((256 : Int32) ≤ nI k) = False := (eq_false (by simp (disch := omega) only [nI_lit, nI_add, lt_nI, le_nI, eq_nI] <;> omega) : ((256 : Int32) ≤ nI k) = False)
    rw [n2] at k4
    have o3 : gR h3 46 0 = .ref o := g3.2.1
    have k6 : cal 20 [.ref (o + 15), .int 12, .ref 48] 7 (sI h2 49 k (nI n)) = some (some (.int (amv L FA am k)), h4) := k6
    have o3 : gR (sI h2 49 k (nI n)) 46 0 = .ref o := o3
    have o2 : gR h2 46 0 = .ref o := o3
    conv => lhs; rw [B_14_11]
    simp (disch := first | assumption | exact b2i_01 _ | decide | omega | (simp only [kd_sI, ln_sI, hl_sI, gL_sI, gR_sI, kd_sL, ln_sL, hl_sL, gI_sL, gR_sL, kd_sR, ln_sR, hl_sR, gI_sR, gL_sR, kd_cpI, ln_cpI, hl_cpI, gL_cpI, gR_cpI, gI_cpI, gI_sI, gL_sL, gR_sR, St_sI, St_sL, St_cpI, Nat.reduceEqDiff, Nat.reduceAdd, eq_self, false_and, and_false, true_and, and_true, and_self, if_true, if_false, false_or, or_false, true_or, or_true, not_true_eq_false, not_false_eq_true, reduceIte, K_46, F_46_2, F_46_3, F_46_4, F_46_5, F_46_6, F_46_7, K_49, N_49, K_50, N_50, KO_0, KO_1, KO_2, NO_2, KO_3, NO_3, KO_4, KO_5, NO_5, KO_6, NO_6, KO_7, NO_7, KO_8, KO_9, NO_9, KO_10, NO_10, KO_11, NO_11, KO_12, NO_12, KO_13, NO_13, KO_14, NO_14, KO_15, KO_16, NO_16, KO_17, NO_17, KO_18, NO_18, KO_19, NO_19, FO_0_0, FO_0_1, FO_0_2, FO_0_3, FO_0_4, FO_0_5, FO_0_6, FO_0_7, FO_0_8, FO_0_9, FO_0_10, FO_0_11, FO_1_0, FO_4_0, FO_8_0, FO_15_0, FO_15_2, FO_15_3, FO_15_4, Oo_2, Oo_p, hS, c1, lt, lt2, ho, k1, hS1, k4, hS2, i16, b, tt, o2, o3, k6, hS4, nI_1, List.length_nil, List.length_cons, Nat.zero_le] <;> first | done | decide | omega | fail) | fail) only [B_14_0, e_aload_n_0, e_aload_n_1, P_0, e_call_1, psh_s, psh_n, Option.bind_some, e_iconst_0, e_istore_n_2, clr_i, clr_l, clr_a, clr_n, e_gotow, T_14_11, e_iload_n_2, G_1, e_ic_ge, e_sipush_256, e_call_2, G_4, e_i2s, e_sastore, G_5, G_0, G_511, e_bipush_12, G_3, e_call_3, e_iastore, e_iinc_2_1, e_goto, T_14_70, T_14_72, B_14_72, G_6, T_14_95, B_14_95, G_7, e_bipush_m3, R_14, kd_sI, ln_sI, hl_sI, gL_sI, gR_sI, kd_sL, ln_sL, hl_sL, gI_sL, gR_sL, kd_sR, ln_sR, hl_sR, gI_sR, gL_sR, kd_cpI, ln_cpI, hl_cpI, gL_cpI, gR_cpI, gI_cpI, gI_sI, gL_sL, gR_sR, St_sI, St_sL, St_cpI, Nat.reduceEqDiff, Nat.reduceAdd, eq_self, false_and, and_false, true_and, and_true, and_self, if_true, if_false, false_or, or_false, true_or, or_true, not_true_eq_false, not_false_eq_true, reduceIte, K_46, F_46_2, F_46_3, F_46_4, F_46_5, F_46_6, F_46_7, K_49, N_49, K_50, N_50, KO_0, KO_1, KO_2, NO_2, KO_3, NO_3, KO_4, KO_5, NO_5, KO_6, NO_6, KO_7, NO_7, KO_8, KO_9, NO_9, KO_10, NO_10, KO_11, NO_11, KO_12, NO_12, KO_13, NO_13, KO_14, NO_14, KO_15, KO_16, NO_16, KO_17, NO_17, KO_18, NO_18, KO_19, NO_19, FO_0_0, FO_0_1, FO_0_2, FO_0_3, FO_0_4, FO_0_5, FO_0_6, FO_0_7, FO_0_8, FO_0_9, FO_0_10, FO_0_11, FO_1_0, FO_4_0, FO_8_0, FO_15_0, FO_15_2, FO_15_3, FO_15_4, Oo_2, Oo_p, c1, lt, lt2, ho, k1, hS1, k4, hS2, i16, b, tt, o2, o3, k6, hS4, nI_1, List.length_nil, List.length_cons, Nat.zero_le]
    rfl
