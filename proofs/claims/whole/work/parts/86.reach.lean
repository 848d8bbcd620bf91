theorem p_reach {o p : Nat} {L : LD} {h : MH} (hI : INV o p L h) (x y : Int32) {μ : Nat} (hμ : 7 < μ) : ∃ h1 h2 v, cal 165 [.ref 2, .int x, .int y] μ h = some (some (.int v), h1) ∧ cal 306 [.ref 66, .int x, .int y] μ h1 = some (some (.int v), h2) ∧ INV o p L h2 := by
  have hI0 := hI
  obtain ⟨b0, h0, ea, e0, y0⟩ := q_clear hI0 (μ := 7) (by omega)
  have hS00 := hI0.1.1.1
  have hμ5 : 5 < μ := by omega
  have hI := y0.2.1
  have hSr0 : Srh h0 := by
    have ka : kd h b0 = 20 := by rw [← Sm_kd y0.1]; exact y0.2.2.2.2.1
    exact hI0.2.2.2.1.smA y0.1 ka y0.2.2.2.1 (by decide +kernel) rfl
  have hRo0 : Rom h0 := hI0.2.2.2.2.smA y0.1 y0.2.2.2.1 (by decide +kernel)
  have hS := hI.1.1; have hB := hI.1.2.1; have hC := hI.1.2.2.1; have hM := hI.2.1; have hs := hI.2.2; have ho := hC.1.1; have hl := hC.1.2.1; have hl2 := hC.1.2.2.1; have hl3 := hC.1.2.2.2; have cT := hC.2.1.1; have cR := hC.2.1.2.1; have cC := hC.2.1.2.2.1; have cN := hC.2.1.2.2.2; have mT := hM.1.1; have mR := hM.1.2.1; have mC := hM.1.2.2.1; have mN := hM.1.2.2.2; have hb := hB.1; have e10 : ((1 : Int32) = 0) = False := by simp
  have a1 := q_trees hI x (μ := 7) (by omega)
  rcases okB_cases x (n := dR L) (by omega) with c1 | ⟨t, ht, rfl⟩
  · have m0 := q_lain hI
    have hSm := m0.2.1.1.1
    have a3 := q_isTree m0.2.1 x (μ := 5) (by omega)
    refine ⟨h0, _, -2, ?_, ?_, hI0.lay ea (by simp) y0 m0⟩
    · rw [C_165 2 _ _ μ _ (K_2 hS00) (by decide) hμ]
      simp (disch := first | assumption | exact b2i_01 _ | decide | omega | (simp only [kd_sI, ln_sI, hl_sI, gL_sI, gR_sI, kd_sL, ln_sL, hl_sL, gI_sL, gR_sL, kd_sR, ln_sR, hl_sR, gI_sR, gL_sR, kd_cpI, ln_cpI, hl_cpI, gL_cpI, gR_cpI, gI_cpI, gI_sI, gL_sL, gR_sR, St_sI, St_sL, St_cpI, Nat.reduceEqDiff, Nat.reduceAdd, eq_self, false_and, and_false, true_and, and_true, and_self, if_true, if_false, false_or, or_false, true_or, or_true, not_true_eq_false, not_false_eq_true, reduceIte, K_2, F_2_0, F_2_1, F_2_2, F_2_3, F_2_4, F_2_5, F_2_6, KO_0, KO_1, KO_2, NO_2, KO_3, NO_3, KO_4, KO_5, NO_5, KO_6, NO_6, KO_7, NO_7, KO_8, KO_9, NO_9, KO_10, NO_10, KO_11, NO_11, KO_12, NO_12, KO_13, NO_13, KO_14, NO_14, KO_15, KO_16, NO_16, KO_17, NO_17, KO_18, NO_18, KO_19, NO_19, FO_0_0, FO_0_1, FO_0_2, FO_0_3, FO_0_4, FO_0_5, FO_0_6, FO_0_7, FO_0_8, FO_0_9, FO_0_10, FO_0_11, FO_1_0, FO_4_0, FO_8_0, FO_15_0, FO_15_2, FO_15_3, FO_15_4, Oo_2, Oo_p, hS, hS00, hl, ho, e0, a1, c1, b2i_f, b2i_t, e10, decide_true, decide_false, List.length_nil, List.length_cons, Nat.zero_le] <;> first | done | decide | omega | fail) | fail) only [B_165_0, e_aload_n_0, G_1106, e_call_1, psh_s, psh_n, Option.bind_some, G_1107, G_502, e_iload_n_1, e_call_2, e_if_eq, e_iload_n_2, G_504, e_iaload, e_iconst_m1, e_ixor, e_iand, e_gotow, T_165_37, B_165_37, e_bipush_m2, R_165, T_165_40, B_165_40, G_1103, e_call_6, kd_sI, ln_sI, hl_sI, gL_sI, gR_sI, kd_sL, ln_sL, hl_sL, gI_sL, gR_sL, kd_sR, ln_sR, hl_sR, gI_sR, gL_sR, kd_cpI, ln_cpI, hl_cpI, gL_cpI, gR_cpI, gI_cpI, gI_sI, gL_sL, gR_sR, St_sI, St_sL, St_cpI, Nat.reduceEqDiff, Nat.reduceAdd, eq_self, false_and, and_false, true_and, and_true, and_self, if_true, if_false, false_or, or_false, true_or, or_true, not_true_eq_false, not_false_eq_true, reduceIte, K_2, F_2_0, F_2_1, F_2_2, F_2_3, F_2_4, F_2_5, F_2_6, KO_0, KO_1, KO_2, NO_2, KO_3, NO_3, KO_4, KO_5, NO_5, KO_6, NO_6, KO_7, NO_7, KO_8, KO_9, NO_9, KO_10, NO_10, KO_11, NO_11, KO_12, NO_12, KO_13, NO_13, KO_14, NO_14, KO_15, KO_16, NO_16, KO_17, NO_17, KO_18, NO_18, KO_19, NO_19, FO_0_0, FO_0_1, FO_0_2, FO_0_3, FO_0_4, FO_0_5, FO_0_6, FO_0_7, FO_0_8, FO_0_9, FO_0_10, FO_0_11, FO_1_0, FO_4_0, FO_8_0, FO_15_0, FO_15_2, FO_15_3, FO_15_4, Oo_2, Oo_p, hS00, hl, ho, e0, a1, c1, b2i_f, b2i_t, e10, decide_true, decide_false, List.length_nil, List.length_cons, Nat.zero_le]
    · rw [C_306 66 _ _ μ h0 (K_66 hS) (by decide) hμ5]
      simp (disch := first | assumption | exact b2i_01 _ | decide | omega | (simp only [kd_sI, ln_sI, hl_sI, gL_sI, gR_sI, kd_sL, ln_sL, hl_sL, gI_sL, gR_sL, kd_sR, ln_sR, hl_sR, gI_sR, gL_sR, kd_cpI, ln_cpI, hl_cpI, gL_cpI, gR_cpI, gI_cpI, gI_sI, gL_sL, gR_sR, St_sI, St_sL, St_cpI, Nat.reduceEqDiff, Nat.reduceAdd, eq_self, false_and, and_false, true_and, and_true, and_self, if_true, if_false, false_or, or_false, true_or, or_true, not_true_eq_false, not_false_eq_true, reduceIte, K_66, F_66_0, F_66_10, F_66_11, F_66_12, F_66_13, F_66_14, F_66_15, F_66_16, F_66_17, F_66_18, F_66_25, F_66_26, F_66_27, F_66_28, F_66_29, F_66_30, F_66_31, F_66_32, F_66_33, F_66_34, F_66_35, F_66_36, F_66_37, F_66_38, F_66_39, F_66_60, F_66_61, F_66_62, F_66_63, F_66_66, F_66_68, F_66_69, F_66_71, F_66_72, F_66_73, F_66_74, F_66_77, F_66_78, F_66_79, F_66_80, F_66_81, F_66_84, F_66_85, F_66_86, F_66_87, hS, hSm, a3, c1, b2i_f, b2i_t, e10, decide_true, decide_false, List.length_nil, List.length_cons, Nat.zero_le] <;> first | done | decide | omega | fail) | fail) only [B_306_0, e_aload_n_0, e_iconst_0, P_1267, e_iload_n_1, e_call_2, psh_s, psh_n, Option.bind_some, e_if_eq, e_iload_n_2, G_1239, e_iaload, e_iconst_m1, e_ixor, e_iand, e_gotow, T_306_26, B_306_26, e_bipush_m2, R_306, T_306_29, B_306_29, e_call_3, e_istore_n_3, clr_i, clr_l, clr_a, clr_n, e_iload_n_3, e_if_ge, T_306_42, B_306_42, e_istore_4, e_istore_5, T_306_48, G_1272, e_iload_5, e_if_lt, e_iinc_4_1, e_goto, T_306_73, B_306_73, e_iload_4, T_306_82, B_306_82, e_iinc_4_m1, G_1266, G_1273, e_iastore, T_306_121, B_306_121, G_1267, kd_sI, ln_sI, hl_sI, gL_sI, gR_sI, kd_sL, ln_sL, hl_sL, gI_sL, gR_sL, kd_sR, ln_sR, hl_sR, gI_sR, gL_sR, kd_cpI, ln_cpI, hl_cpI, gL_cpI, gR_cpI, gI_cpI, gI_sI, gL_sL, gR_sR, St_sI, St_sL, St_cpI, Nat.reduceEqDiff, Nat.reduceAdd, eq_self, false_and, and_false, true_and, and_true, and_self, if_true, if_false, false_or, or_false, true_or, or_true, not_true_eq_false, not_false_eq_true, reduceIte, K_66, F_66_0, F_66_10, F_66_11, F_66_12, F_66_13, F_66_14, F_66_15, F_66_16, F_66_17, F_66_18, F_66_25, F_66_26, F_66_27, F_66_28, F_66_29, F_66_30, F_66_31, F_66_32, F_66_33, F_66_34, F_66_35, F_66_36, F_66_37, F_66_38, F_66_39, F_66_60, F_66_61, F_66_62, F_66_63, F_66_66, F_66_68, F_66_69, F_66_71, F_66_72, F_66_73, F_66_74, F_66_77, F_66_78, F_66_79, F_66_80, F_66_81, F_66_84, F_66_85, F_66_86, F_66_87, hSm, a3, c1, b2i_f, b2i_t, e10, decide_true, decide_false, List.length_nil, List.length_cons, Nat.zero_le]
  have c1 := okB_nI (n := dR L) (by omega) ht
  have ht3 : t < 3 := by omega
  have h12 := pw12 hb.2.2.1
  obtain ⟨mm, hmm2, hmm, -⟩ := hB.2.2.1 t ht3
  have btt : inBd (nI t) 3 = true := inBd_nI (by omega) (by omega)
  have tt := tc_nI (show t < 2147483648 by omega)
  have emC := hC.2.2.2.1 t ht3
  have emM := hM.2.2.1 t ht3
  rw [hmm] at emC emM
  by_cases c2 : ¬ (y &&& (nI mm ^^^ -1) = 0)
  · have m0 := q_lain hI
    have hSm := m0.2.1.1.1
    have a3 := q_isTree m0.2.1 (nI t) (μ := 5) (by omega)
    refine ⟨h0, _, -2, ?_, ?_, hI0.lay ea (by simp) y0 m0⟩
    · rw [C_165 2 _ _ μ _ (K_2 hS00) (by decide) hμ]
      simp (disch := first | assumption | exact b2i_01 _ | decide | omega | (simp only [kd_sI, ln_sI, hl_sI, gL_sI, gR_sI, kd_sL, ln_sL, hl_sL, gI_sL, gR_sL, kd_sR, ln_sR, hl_sR, gI_sR, gL_sR, kd_cpI, ln_cpI, hl_cpI, gL_cpI, gR_cpI, gI_cpI, gI_sI, gL_sL, gR_sR, St_sI, St_sL, St_cpI, Nat.reduceEqDiff, Nat.reduceAdd, eq_self, false_and, and_false, true_and, and_true, and_self, if_true, if_false, false_or, or_false, true_or, or_true, not_true_eq_false, not_false_eq_true, reduceIte, K_2, F_2_0, F_2_1, F_2_2, F_2_3, F_2_4, F_2_5, F_2_6, KO_0, KO_1, KO_2, NO_2, KO_3, NO_3, KO_4, KO_5, NO_5, KO_6, NO_6, KO_7, NO_7, KO_8, KO_9, NO_9, KO_10, NO_10, KO_11, NO_11, KO_12, NO_12, KO_13, NO_13, KO_14, NO_14, KO_15, KO_16, NO_16, KO_17, NO_17, KO_18, NO_18, KO_19, NO_19, FO_0_0, FO_0_1, FO_0_2, FO_0_3, FO_0_4, FO_0_5, FO_0_6, FO_0_7, FO_0_8, FO_0_9, FO_0_10, FO_0_11, FO_1_0, FO_4_0, FO_8_0, FO_15_0, FO_15_2, FO_15_3, FO_15_4, Oo_2, Oo_p, hS, hS00, hl, ho, e0, a1, c1, btt, tt, emC, c2, b2i_f, b2i_t, e10, decide_true, decide_false, List.length_nil, List.length_cons, Nat.zero_le] <;> first | done | decide | omega | fail) | fail) only [B_165_0, e_aload_n_0, G_1106, e_call_1, psh_s, psh_n, Option.bind_some, G_1107, G_502, e_iload_n_1, e_call_2, e_if_eq, e_iload_n_2, G_504, e_iaload, e_iconst_m1, e_ixor, e_iand, e_gotow, T_165_37, B_165_37, e_bipush_m2, R_165, T_165_40, B_165_40, G_1103, e_call_6, kd_sI, ln_sI, hl_sI, gL_sI, gR_sI, kd_sL, ln_sL, hl_sL, gI_sL, gR_sL, kd_sR, ln_sR, hl_sR, gI_sR, gL_sR, kd_cpI, ln_cpI, hl_cpI, gL_cpI, gR_cpI, gI_cpI, gI_sI, gL_sL, gR_sR, St_sI, St_sL, St_cpI, Nat.reduceEqDiff, Nat.reduceAdd, eq_self, false_and, and_false, true_and, and_true, and_self, if_true, if_false, false_or, or_false, true_or, or_true, not_true_eq_false, not_false_eq_true, reduceIte, K_2, F_2_0, F_2_1, F_2_2, F_2_3, F_2_4, F_2_5, F_2_6, KO_0, KO_1, KO_2, NO_2, KO_3, NO_3, KO_4, KO_5, NO_5, KO_6, NO_6, KO_7, NO_7, KO_8, KO_9, NO_9, KO_10, NO_10, KO_11, NO_11, KO_12, NO_12, KO_13, NO_13, KO_14, NO_14, KO_15, KO_16, NO_16, KO_17, NO_17, KO_18, NO_18, KO_19, NO_19, FO_0_0, FO_0_1, FO_0_2, FO_0_3, FO_0_4, FO_0_5, FO_0_6, FO_0_7, FO_0_8, FO_0_9, FO_0_10, FO_0_11, FO_1_0, FO_4_0, FO_8_0, FO_15_0, FO_15_2, FO_15_3, FO_15_4, Oo_2, Oo_p, hS00, hl, ho, e0, a1, c1, btt, tt, emC, c2, b2i_f, b2i_t, e10, decide_true, decide_false, List.length_nil, List.length_cons, Nat.zero_le]
    · rw [C_306 66 _ _ μ h0 (K_66 hS) (by decide) hμ5]
      simp (disch := first | assumption | exact b2i_01 _ | decide | omega | (simp only [kd_sI, ln_sI, hl_sI, gL_sI, gR_sI, kd_sL, ln_sL, hl_sL, gI_sL, gR_sL, kd_sR, ln_sR, hl_sR, gI_sR, gL_sR, kd_cpI, ln_cpI, hl_cpI, gL_cpI, gR_cpI, gI_cpI, gI_sI, gL_sL, gR_sR, St_sI, St_sL, St_cpI, Nat.reduceEqDiff, Nat.reduceAdd, eq_self, false_and, and_false, true_and, and_true, and_self, if_true, if_false, false_or, or_false, true_or, or_true, not_true_eq_false, not_false_eq_true, reduceIte, K_66, F_66_0, F_66_10, F_66_11, F_66_12, F_66_13, F_66_14, F_66_15, F_66_16, F_66_17, F_66_18, F_66_25, F_66_26, F_66_27, F_66_28, F_66_29, F_66_30, F_66_31, F_66_32, F_66_33, F_66_34, F_66_35, F_66_36, F_66_37, F_66_38, F_66_39, F_66_60, F_66_61, F_66_62, F_66_63, F_66_66, F_66_68, F_66_69, F_66_71, F_66_72, F_66_73, F_66_74, F_66_77, F_66_78, F_66_79, F_66_80, F_66_81, F_66_84, F_66_85, F_66_86, F_66_87, K_91, N_91, hS, hSm, a3, c1, btt, tt, emM, c2, b2i_f, b2i_t, e10, decide_true, decide_false, List.length_nil, List.length_cons, Nat.zero_le] <;> first | done | decide | omega | fail) | fail) only [B_306_0, e_aload_n_0, e_iconst_0, P_1267, e_iload_n_1, e_call_2, psh_s, psh_n, Option.bind_some, e_if_eq, e_iload_n_2, G_1239, e_iaload, e_iconst_m1, e_ixor, e_iand, e_gotow, T_306_26, B_306_26, e_bipush_m2, R_306, T_306_29, B_306_29, e_call_3, e_istore_n_3, clr_i, clr_l, clr_a, clr_n, e_iload_n_3, e_if_ge, T_306_42, B_306_42, e_istore_4, e_istore_5, T_306_48, G_1272, e_iload_5, e_if_lt, e_iinc_4_1, e_goto, T_306_73, B_306_73, e_iload_4, T_306_82, B_306_82, e_iinc_4_m1, G_1266, G_1273, e_iastore, T_306_121, B_306_121, G_1267, kd_sI, ln_sI, hl_sI, gL_sI, gR_sI, kd_sL, ln_sL, hl_sL, gI_sL, gR_sL, kd_sR, ln_sR, hl_sR, gI_sR, gL_sR, kd_cpI, ln_cpI, hl_cpI, gL_cpI, gR_cpI, gI_cpI, gI_sI, gL_sL, gR_sR, St_sI, St_sL, St_cpI, Nat.reduceEqDiff, Nat.reduceAdd, eq_self, false_and, and_false, true_and, and_true, and_self, if_true, if_false, false_or, or_false, true_or, or_true, not_true_eq_false, not_false_eq_true, reduceIte, K_66, F_66_0, F_66_10, F_66_11, F_66_12, F_66_13, F_66_14, F_66_15, F_66_16, F_66_17, F_66_18, F_66_25, F_66_26, F_66_27, F_66_28, F_66_29, F_66_30, F_66_31, F_66_32, F_66_33, F_66_34, F_66_35, F_66_36, F_66_37, F_66_38, F_66_39, F_66_60, F_66_61, F_66_62, F_66_63, F_66_66, F_66_68, F_66_69, F_66_71, F_66_72, F_66_73, F_66_74, F_66_77, F_66_78, F_66_79, F_66_80, F_66_81, F_66_84, F_66_85, F_66_86, F_66_87, K_91, N_91, hSm, a3, c1, btt, tt, emM, c2, b2i_f, b2i_t, e10, decide_true, decide_false, List.length_nil, List.length_cons, Nat.zero_le]
  have c2 : y &&& (nI mm ^^^ -1) = 0 := Classical.not_not.mp c2
  obtain ⟨goal, hg, rfl⟩ : ∃ goal, goal < 2 ^ dC L ∧ y = nI goal := tbt_nat hb.2.2.1 (fun i h1 h2 => by
    have := and_z.mp c2 i h2
    rw [tbt_xor, tbt_m1 h2, tbt_lt hmm2 h1] at this
    simpa using this)
  -- the searches
  obtain ⟨z1, z2, z3, z4, z4', z5, z6⟩ := y0.2.2
  obtain ⟨bb, nn, w1, w2, w3, w4, w5, w6, w7, w8⟩ := hI0.2.2.1.nat
  obtain rfl : bb = b0 := by
    rw [w1] at ea
    injection ea
  have lb0 : ln h0 bb = 40 ∨ ln h0 bb = 4096 := by rw [Sm_ln y0.1]; exact w4
  obtain ⟨a, h1, e1, hI1, hO1, hRo1, ls1⟩ := q_searchesW hI hSr0 hRo0 z1 z3 (μ := 7) (by omega)
  have hS1 := hI1.1.1
  have lenS := St_len hS
  have hbl : bb < h0.1.length := kdlt (by omega)
  have r1 : gR h1 64 0 = .ref bb := by rw [(ls1.2.2 64 0 (by omega)).2.2 (by omega)]; exact z1
  have k1 : kd h1 bb = 20 := by rw [(ls1.1 bb hbl).1]; exact z3
  have l1 : ln h1 bb = 40 ∨ ln h1 bb = 4096 := by rw [(ls1.1 bb hbl).2]; exact lb0
  have cn1 : gI h1 64 1 = nI 0 := by rw [(ls1.2.2 64 1 (by omega)).1]; exact z5
  have hYW : LyW h1 := ⟨bb, r1, z2, k1, l1⟩
  have fr0 : Fr h h0 [(2, some 9), (52, none), (64, none), (65, none)] := fun q k hq w => (y0.1.frA z2) q k hq (by
    unfold wr wr1 at w ⊢
    simp only [List.any_cons, List.any_nil, Bool.or_false, Bool.or_eq_false_iff, Bool.and_true, Bool.and_eq_false_iff] at w ⊢
    exact ⟨w.2.2.2, w.2.1, Or.inl w.2.2.1⟩)
  have fr1 : Fr h h1 [(2, some 9), (52, none), (64, none), (65, none)] := fr0.trans (fun q k hq w => by
    obtain ⟨b1, b2, b3⟩ := ls1.2.2 q k (by omega)
    refine ⟨b1, b2, b3 ?_⟩
    rintro ⟨rfl, rfl⟩
    cases w)
  have in1 : gI h1 94 2 = gI h0 94 2 := (ls1.2.2 94 2 (by omega)).1
  obtain ⟨s0, h0s, hs0⟩ : ∃ s0, s0 < 2 ^ dC L ∧ gI h0 94 2 &&& dMem L t = nI s0 := by
    obtain ⟨n, n1, n2⟩ := hs.2.2.2.1
    obtain ⟨m, m1, m2⟩ := and_lt hB n1 (dMem L t)
    exact ⟨m, m1, by rw [show gI h0 94 2 = nI n from n2]; exact m2⟩
  have hp44 : p < 44 := by have := hs.2.1; omega
  have f1 := s_Sn_inNow (μ := 7) hS1 hI1.2.2.1 hp44 (by omega)
  rw [show gI h1 54 (p * 27 + 2) = gI h1 94 2 from hI1.2.2.2.2.1 2 (by omega), in1] at f1
  obtain ⟨oth, eo⟩ : ∃ oth, oth = gI h0 94 2 &&& (nI mm ^^^ -1) := ⟨_, rfl⟩
  obtain ⟨i', ki, cls⟩ := s_Se_shortestWay (inn := gI h0 94 2) (goal := goal) hI1 hO1 ht hmm hmm2 hs0 h0s hg hYW hRo1 (μ := 7) (by omega)
  rw [← eo] at ki cls
  have hl1 : gR h1 2 7 = .ref o := hI1.1.2.2.1.1.2.1
  have gl : ∀ v h3, cal 168 [.ref a, .ref o, .int (nI t), .int (gI h0 94 2), .int (nI goal), .ref 64] 7 h1 = some (some (.int v), h3) → cal 165 [.ref 2, .int (nI t), .int (nI goal)] μ h = some (some (.int v), h3) := by
    intro v h3 ev
    rw [C_165 2 _ _ μ _ (K_2 hS00) (by decide) hμ]
    simp (disch := first | assumption | exact b2i_01 _ | decide | omega | (simp only [kd_sI, ln_sI, hl_sI, gL_sI, gR_sI, kd_sL, ln_sL, hl_sL, gI_sL, gR_sL, kd_sR, ln_sR, hl_sR, gI_sR, gL_sR, kd_cpI, ln_cpI, hl_cpI, gL_cpI, gR_cpI, gI_cpI, gI_sI, gL_sL, gR_sR, St_sI, St_sL, St_cpI, Nat.reduceEqDiff, Nat.reduceAdd, eq_self, false_and, and_false, true_and, and_true, and_self, if_true, if_false, false_or, or_false, true_or, or_true, not_true_eq_false, not_false_eq_true, reduceIte, K_2, F_2_0, F_2_1, F_2_2, F_2_3, F_2_4, F_2_5, F_2_6, K_53, F_53_1, KO_0, KO_1, KO_2, NO_2, KO_3, NO_3, KO_4, KO_5, NO_5, KO_6, NO_6, KO_7, NO_7, KO_8, KO_9, NO_9, KO_10, NO_10, KO_11, NO_11, KO_12, NO_12, KO_13, NO_13, KO_14, NO_14, KO_15, KO_16, NO_16, KO_17, NO_17, KO_18, NO_18, KO_19, NO_19, FO_0_0, FO_0_1, FO_0_2, FO_0_3, FO_0_4, FO_0_5, FO_0_6, FO_0_7, FO_0_8, FO_0_9, FO_0_10, FO_0_11, FO_1_0, FO_4_0, FO_8_0, FO_15_0, FO_15_2, FO_15_3, FO_15_4, Oo_2, Oo_p, hS, hS00, hS1, hl, hl1, ho, e0, a1, c1, btt, tt, emC, c2, e1, f1, ev, b2i_f, b2i_t, e10, decide_true, decide_false, List.length_nil, List.length_cons, Nat.zero_le] <;> first | done | decide | omega | fail) | fail) only [B_165_0, e_aload_n_0, G_1106, e_call_1, psh_s, psh_n, Option.bind_some, G_1107, G_502, e_iload_n_1, e_call_2, e_if_eq, e_iload_n_2, G_504, e_iaload, e_iconst_m1, e_ixor, e_iand, e_gotow, T_165_37, B_165_37, e_bipush_m2, R_165, T_165_40, B_165_40, G_1103, e_call_6, kd_sI, ln_sI, hl_sI, gL_sI, gR_sI, kd_sL, ln_sL, hl_sL, gI_sL, gR_sL, kd_sR, ln_sR, hl_sR, gI_sR, gL_sR, kd_cpI, ln_cpI, hl_cpI, gL_cpI, gR_cpI, gI_cpI, gI_sI, gL_sL, gR_sR, St_sI, St_sL, St_cpI, Nat.reduceEqDiff, Nat.reduceAdd, eq_self, false_and, and_false, true_and, and_true, and_self, if_true, if_false, false_or, or_false, true_or, or_true, not_true_eq_false, not_false_eq_true, reduceIte, K_2, F_2_0, F_2_1, F_2_2, F_2_3, F_2_4, F_2_5, F_2_6, K_53, F_53_1, KO_0, KO_1, KO_2, NO_2, KO_3, NO_3, KO_4, KO_5, NO_5, KO_6, NO_6, KO_7, NO_7, KO_8, KO_9, NO_9, KO_10, NO_10, KO_11, NO_11, KO_12, NO_12, KO_13, NO_13, KO_14, NO_14, KO_15, KO_16, NO_16, KO_17, NO_17, KO_18, NO_18, KO_19, NO_19, FO_0_0, FO_0_1, FO_0_2, FO_0_3, FO_0_4, FO_0_5, FO_0_6, FO_0_7, FO_0_8, FO_0_9, FO_0_10, FO_0_11, FO_1_0, FO_4_0, FO_8_0, FO_15_0, FO_15_2, FO_15_3, FO_15_4, Oo_2, Oo_p, hS00, hS1, hl, hl1, ho, e0, a1, c1, btt, tt, emC, c2, e1, f1, ev, b2i_f, b2i_t, e10, decide_true, decide_false, List.length_nil, List.length_cons, Nat.zero_le]
  -- the reference's part over any heap behind the class's
  have ref : ∀ h3, QI o p L h3 → gI h3 94 2 = gI h0 94 2 → ∃ h5 k', Sm h3 h5 [(66, some 67), (66, some 75), (96, none), (99, none), (100, none), (101, none), (102, none)] ∧ QI o p L h5 ∧ gI h5 66 67 = nI 0 ∧ BqM (bfs (okW L t oth) (dC L) s0 k') h5 ∧ (∀ j, j < k' → j < (bfs (okW L t oth) (dC L) s0 j).length) ∧ (((bfs (okW L t oth) (dC L) s0 k').length ≤ k' ∧ (∀ (j : Nat) (e : Ent), (bfs (okW L t oth) (dC L) s0 k')[j]? = some e → ¬ e.1 = goal) ∧ cal 306 [.ref 66, .int (nI t), .int (nI goal)] μ h3 = some (some (.int (-1)), h5)) ∨ (∃ e, (bfs (okW L t oth) (dC L) s0 k')[k']? = some e ∧ e.1 = goal ∧ k' < 4096 ∧ cal 306 [.ref 66, .int (nI t), .int (nI goal)] μ h3 = rn 306 5 B_306_48 [some (.ref 66), some (.int (nI t)), some (.int (nI goal)), some (.int (nI k')), some (.int (nI 0)), some (.int (nI k'))] [] h5)) := by
    intro h3 hI3 v3
    have hS3 := hI3.1.1
    have m0 := q_lain hI3
    have hI4 := m0.2.1
    have hS4 := hI4.1.1
    have v4 : gI (sI h3 66 67 0) 94 2 = gI h0 94 2 := by rw [gI_sI, if_neg (by omega)]; exact v3
    have a3 := q_isTree hI4 (nI t) (μ := 5) (by omega)
    have em4 : gI h3 91 t = nI mm := by rw [hI3.2.1.2.2.1 t ht3]; exact hmm
    obtain ⟨h5, k', m5, q5, r5, s5⟩ := s_Mo_search (goal := goal) hI4 ht3 hmm (by rw [v4]; exact hs0) h0s hg (μ := 5) (by omega)
    rw [v4, ← eo] at q5 r5 s5
    have l5 : gI h5 66 67 = nI 0 := by rw [m5.1.I rfl, gI_sI, if_pos ⟨rfl, rfl⟩]; rfl
    refine ⟨h5, k', (m0.1.mono (by decide)).trans (m5.1.mono (by decide)), m5.2, l5, q5, r5, ?_⟩
    have hS5 := m5.2.1.1
    rcases s5 with ⟨u1, u2, u3⟩ | ⟨e, u1, u2, u3⟩
    · refine Or.inl ⟨u1, u2, ?_⟩
      have n1 : ((0 : Int32) ≤ -1) = False := by decide
      rw [C_306 66 _ _ μ h3 (K_66 hS3) (by decide) hμ5]
      simp (disch := first | assumption | exact b2i_01 _ | decide | omega | (simp only [kd_sI, ln_sI, hl_sI, gL_sI, gR_sI, kd_sL, ln_sL, hl_sL, gI_sL, gR_sL, kd_sR, ln_sR, hl_sR, gI_sR, gL_sR, kd_cpI, ln_cpI, hl_cpI, gL_cpI, gR_cpI, gI_cpI, gI_sI, gL_sL, gR_sR, St_sI, St_sL, St_cpI, Nat.reduceEqDiff, Nat.reduceAdd, eq_self, false_and, and_false, true_and, and_true, and_self, if_true, if_false, false_or, or_false, true_or, or_true, not_true_eq_false, not_false_eq_true, reduceIte, K_66, F_66_0, F_66_10, F_66_11, F_66_12, F_66_13, F_66_14, F_66_15, F_66_16, F_66_17, F_66_18, F_66_25, F_66_26, F_66_27, F_66_28, F_66_29, F_66_30, F_66_31, F_66_32, F_66_33, F_66_34, F_66_35, F_66_36, F_66_37, F_66_38, F_66_39, F_66_60, F_66_61, F_66_62, F_66_63, F_66_66, F_66_68, F_66_69, F_66_71, F_66_72, F_66_73, F_66_74, F_66_77, F_66_78, F_66_79, F_66_80, F_66_81, F_66_84, F_66_85, F_66_86, F_66_87, K_91, N_91, hS, hS3, hS4, hS5, a3, c1, btt, tt, em4, c2, u3, n1, b2i_f, b2i_t, e10, decide_true, decide_false, List.length_nil, List.length_cons, Nat.zero_le] <;> first | done | decide | omega | fail) | fail) only [B_306_0, e_aload_n_0, e_iconst_0, P_1267, e_iload_n_1, e_call_2, psh_s, psh_n, Option.bind_some, e_if_eq, e_iload_n_2, G_1239, e_iaload, e_iconst_m1, e_ixor, e_iand, e_gotow, T_306_26, B_306_26, e_bipush_m2, R_306, T_306_29, B_306_29, e_call_3, e_istore_n_3, clr_i, clr_l, clr_a, clr_n, e_iload_n_3, e_if_ge, T_306_42, B_306_42, e_istore_4, e_istore_5, T_306_48, G_1272, e_iload_5, e_if_lt, e_iinc_4_1, e_goto, T_306_73, B_306_73, e_iload_4, T_306_82, B_306_82, e_iinc_4_m1, G_1266, G_1273, e_iastore, T_306_121, B_306_121, G_1267, kd_sI, ln_sI, hl_sI, gL_sI, gR_sI, kd_sL, ln_sL, hl_sL, gI_sL, gR_sL, kd_sR, ln_sR, hl_sR, gI_sR, gL_sR, kd_cpI, ln_cpI, hl_cpI, gL_cpI, gR_cpI, gI_cpI, gI_sI, gL_sL, gR_sR, St_sI, St_sL, St_cpI, Nat.reduceEqDiff, Nat.reduceAdd, eq_self, false_and, and_false, true_and, and_true, and_self, if_true, if_false, false_or, or_false, true_or, or_true, not_true_eq_false, not_false_eq_true, reduceIte, K_66, F_66_0, F_66_10, F_66_11, F_66_12, F_66_13, F_66_14, F_66_15, F_66_16, F_66_17, F_66_18, F_66_25, F_66_26, F_66_27, F_66_28, F_66_29, F_66_30, F_66_31, F_66_32, F_66_33, F_66_34, F_66_35, F_66_36, F_66_37, F_66_38, F_66_39, F_66_60, F_66_61, F_66_62, F_66_63, F_66_66, F_66_68, F_66_69, F_66_71, F_66_72, F_66_73, F_66_74, F_66_77, F_66_78, F_66_79, F_66_80, F_66_81, F_66_84, F_66_85, F_66_86, F_66_87, K_91, N_91, hS3, hS4, hS5, a3, c1, btt, tt, em4, c2, u3, n1, b2i_f, b2i_t, e10, decide_true, decide_false, List.length_nil, List.length_cons, Nat.zero_le]
    · have wl := Wl_bf (ok := okW L t oth) h0s k'
      have wlen := wl.len
      have hk' : k' < (bfs (okW L t oth) (dC L) s0 k').length := by
        rcases Nat.lt_or_ge k' (bfs (okW L t oth) (dC L) s0 k').length with q | q
        · exact q
        · rw [List.getElem?_eq_none q] at u1; cases u1
      refine Or.inr ⟨e, u1, u2, by omega, ?_⟩
      have n1 : ((0 : Int32) ≤ nI k') = True := by rw [show (0 : Int32) = nI 0 from rfl, le_nI (by omega) (by omega)]; exact eq_true (Nat.zero_le _)
      rw [C_306 66 _ _ μ h3 (K_66 hS3) (by decide) hμ5]
      simp (disch := first | assumption | exact b2i_01 _ | decide | omega | (simp only [kd_sI, ln_sI, hl_sI, gL_sI, gR_sI, kd_sL, ln_sL, hl_sL, gI_sL, gR_sL, kd_sR, ln_sR, hl_sR, gI_sR, gL_sR, kd_cpI, ln_cpI, hl_cpI, gL_cpI, gR_cpI, gI_cpI, gI_sI, gL_sL, gR_sR, St_sI, St_sL, St_cpI, Nat.reduceEqDiff, Nat.reduceAdd, eq_self, false_and, and_false, true_and, and_true, and_self, if_true, if_false, false_or, or_false, true_or, or_true, not_true_eq_false, not_false_eq_true, reduceIte, K_66, F_66_0, F_66_10, F_66_11, F_66_12, F_66_13, F_66_14, F_66_15, F_66_16, F_66_17, F_66_18, F_66_25, F_66_26, F_66_27, F_66_28, F_66_29, F_66_30, F_66_31, F_66_32, F_66_33, F_66_34, F_66_35, F_66_36, F_66_37, F_66_38, F_66_39, F_66_60, F_66_61, F_66_62, F_66_63, F_66_66, F_66_68, F_66_69, F_66_71, F_66_72, F_66_73, F_66_74, F_66_77, F_66_78, F_66_79, F_66_80, F_66_81, F_66_84, F_66_85, F_66_86, F_66_87, K_91, N_91, hS, hS3, hS4, hS5, a3, c1, btt, tt, em4, c2, u3, n1, b2i_f, b2i_t, e10, decide_true, decide_false, List.length_nil, List.length_cons, Nat.zero_le] <;> first | done | decide | omega | fail) | fail) only [B_306_0, e_aload_n_0, e_iconst_0, P_1267, e_iload_n_1, e_call_2, psh_s, psh_n, Option.bind_some, e_if_eq, e_iload_n_2, G_1239, e_iaload, e_iconst_m1, e_ixor, e_iand, e_gotow, T_306_26, B_306_26, e_bipush_m2, R_306, T_306_29, B_306_29, e_call_3, e_istore_n_3, clr_i, clr_l, clr_a, clr_n, e_iload_n_3, e_if_ge, T_306_42, B_306_42, e_istore_4, e_istore_5, T_306_48, G_1272, e_iload_5, e_if_lt, e_iinc_4_1, e_goto, T_306_73, B_306_73, e_iload_4, T_306_82, B_306_82, e_iinc_4_m1, G_1266, G_1273, e_iastore, T_306_121, B_306_121, G_1267, kd_sI, ln_sI, hl_sI, gL_sI, gR_sI, kd_sL, ln_sL, hl_sL, gI_sL, gR_sL, kd_sR, ln_sR, hl_sR, gI_sR, gL_sR, kd_cpI, ln_cpI, hl_cpI, gL_cpI, gR_cpI, gI_cpI, gI_sI, gL_sL, gR_sR, St_sI, St_sL, St_cpI, Nat.reduceEqDiff, Nat.reduceAdd, eq_self, false_and, and_false, true_and, and_true, and_self, if_true, if_false, false_or, or_false, true_or, or_true, not_true_eq_false, not_false_eq_true, reduceIte, K_66, F_66_0, F_66_10, F_66_11, F_66_12, F_66_13, F_66_14, F_66_15, F_66_16, F_66_17, F_66_18, F_66_25, F_66_26, F_66_27, F_66_28, F_66_29, F_66_30, F_66_31, F_66_32, F_66_33, F_66_34, F_66_35, F_66_36, F_66_37, F_66_38, F_66_39, F_66_60, F_66_61, F_66_62, F_66_63, F_66_66, F_66_68, F_66_69, F_66_71, F_66_72, F_66_73, F_66_74, F_66_77, F_66_78, F_66_79, F_66_80, F_66_81, F_66_84, F_66_85, F_66_86, F_66_87, K_91, N_91, hS3, hS4, hS5, a3, c1, btt, tt, em4, c2, u3, n1, b2i_f, b2i_t, e10, decide_true, decide_false, List.length_nil, List.length_cons, Nat.zero_le]
      rfl
  have B_pfx : ∀ i j, i ≤ j → Pfx (bfs (okW L t oth) (dC L) s0 i) (bfs (okW L t oth) (dC L) s0 j) := fun i j hij => by
    have := bf_pfx (ok := okW L t oth) (C := dC L) (s0 := s0) (j - i) i
    rwa [show i + (j - i) = j by omega] at this
  rcases cls with ⟨n1, n2, h2, ev, sa⟩ | ⟨g, e, h2, h3, b, f1', f2, sa, ev, hS3, hRo3, u1, u2, u3, u4, u5, u6, lw, u8⟩
  · -- no way
    have hI2 := sa.2.2
    have v2 : gI h2 94 2 = gI h0 94 2 := by rw [sa.low hO1.2.1 94 2 (by omega) (by omega)]; exact in1
    obtain ⟨h5, k', s5, hI5, l5, q5, r5, alt⟩ := ref h2 hI2 v2
    rcases alt with ⟨-, -, er⟩ | ⟨e, t1, t2, -, -⟩
    · refine ⟨h2, h5, -1, gl _ _ ev, er, ?_⟩
      have nb : bb < a ∨ a + 3 < bb := by
        obtain ⟨_, x2, x3, ⟨_, x4, _⟩, ⟨_, x5, _⟩, _, x6, x7⟩ := hO1
        by_cases v0 : bb = a
        · rw [v0] at k1; omega
        by_cases v1 : bb = a + 1
        · rw [v1] at k1; omega
        by_cases v2 : bb = a + 2
        · rw [v2] at k1; omega
        by_cases v3 : bb = a + 3
        · rw [v3] at l1; omega
        omega
      refine hI0.reached (b := bb) (P := []) (h3 := h2) (fr1.trans (fun q k hq w => ?_)) (Or.inr ⟨a, sa.seo hO1⟩) (hRo1.sa sa) (by rw [(sa.2.1 64 0 (by omega)).2.1]; exact r1) z2 (by rw [sa.kde]; exact k1) (by rw [sa.lne]; exact l1) (Nat.zero_le _) (by rw [sa.low hO1.2.1 64 1 (by omega) (by omega)]; exact cn1) (fun i x hx => by simp at hx) s5 hI5 l5 (fun i x hx => by simp at hx)
      have c : ¬ q = 52 := by
        rintro rfl
        cases w
      have := sa.2.1 q k c
      exact ⟨this.2.2 (Or.inl (by have := hO1.2.1; omega)), this.1, this.2.1⟩
    · exfalso
      rcases Nat.lt_or_ge i' k' with c | c
      · have := r5 i' c
        omega
      · have := hsS_t.mpr ⟨k', e, (B_pfx k' i' c).get t1, t2⟩
        rw [n1] at this
        cases this
  · -- a way
    have lenS2 := St_len sa.2.2.1.1
    have hO2 := sa.seo hO1
    have fr23 : Fr h2 h3 [(2, some 9), (52, none), (64, none), (65, none)] := fun q k hq w => by
      have c64 : ¬ q = 64 := by
        rintro rfl
        unfold wr wr1 at w
        simp at w
      have cb : ¬ q = b := by
        rintro rfl
        rcases u2 with z | z
        · subst z
          cases w
        · omega
      have i1 := lw.2.2.1 q k (by omega) c64 cb
      have i2 := lw.2.2.2 q k (by omega) c64 cb
      exact ⟨i1, i2.1, i2.2⟩
    have fr12 : Fr h1 h2 [(2, some 9), (52, none), (64, none), (65, none)] := fun q k hq w => by
      have c : ¬ q = 52 := by
        rintro rfl
        cases w
      have := sa.2.1 q k c
      exact ⟨this.2.2 (Or.inl (by have := hO1.2.1; omega)), this.1, this.2.1⟩
    have hI3 : QI o p L h3 := sa.2.2.fr (l := [(64, none), (65, none)]) hS3 (fun q k hq w => by
      have c64 : ¬ q = 64 := by
        rintro rfl
        unfold wr wr1 at w
        simp at w
      have cb : ¬ q = b := by
        rintro rfl
        rcases u2 with z | z
        · subst z
          cases w
        · omega
      have i1 := lw.2.2.1 q k (by omega) c64 cb
      have i2 := lw.2.2.2 q k (by omega) c64 cb
      exact ⟨i1, i2.1, i2.2⟩) (by decide +kernel)
    have hSr3 : Srh h3 := by
      obtain ⟨x1, x2, x3, ⟨x4, x5, x6⟩, ⟨x7, x8, x9⟩, x10, x11, x12⟩ := hO2
      have la : a < h2.1.length := kdlt (by omega)
      have la1 : a + 1 < h2.1.length := kdlt (by omega)
      have la2 : a + 2 < h2.1.length := kdlt (by omega)
      have la3 : a + 3 < h2.1.length := kdlt (by omega)
      have nba : ¬ a = b := fun q => by rw [← q, (lw.1 a la).1] at u3; omega
      have n2b : ¬ 2 = b := by omega
      refine Or.inr ⟨a, by rw [(lw.2.2.2 2 9 (by omega) (by omega) n2b).2]; exact x1, x2, by rw [(lw.1 a la).1]; exact x3, ⟨by rw [(lw.2.2.2 a 0 la (by omega) nba).2]; exact x4, by rw [(lw.1 _ la1).1]; exact x5, by rw [(lw.1 _ la1).2]; exact x6⟩, ⟨by rw [(lw.2.2.2 a 1 la (by omega) nba).2]; exact x7, by rw [(lw.1 _ la2).1]; exact x8, by rw [(lw.1 _ la2).2]; exact x9⟩, by rw [(lw.2.2.2 a 2 la (by omega) nba).2]; exact x10, by rw [(lw.1 _ la3).1]; exact x11, by rw [(lw.1 _ la3).2]; exact x12⟩
    have v3 : gI h3 94 2 = gI h0 94 2 := by
      rw [(fr23 94 2 (by omega) rfl).1, (fr12 94 2 (by omega) rfl).1]; exact in1
    obtain ⟨h5, k', s5, hI5, l5, q5, r5, alt⟩ := ref h3 hI3 v3
    rcases alt with ⟨n1, n2, -⟩ | ⟨e', t1, t2, tk, er⟩
    · exfalso
      rcases Nat.lt_or_ge k' i' with c | c
      · have := (ki k' c).2
        omega
      · exact n2 g e ((B_pfx i' k' c).get f1') f2
    · have hik : i' ≤ k' := by
        rcases Nat.lt_or_ge k' i' with c | c
        · exfalso
          have := hsS_t.mpr ⟨k', e', t1, t2⟩
          rw [(ki k' c).1] at this
          cases this
        · exact c
      have wl := Wl_bf (ok := okW L t oth) h0s k'
      have wli := Wl_bf (ok := okW L t oth) h0s i'
      have px := B_pfx i' k' hik
      have hgk : g = k' := wl.2.2.1 g k' e e' (px.get f1') t1 (f2.trans t2.symm)
      have hgl : g < (bfs (okW L t oth) (dC L) s0 i').length := by
        rcases Nat.lt_or_ge g (bfs (okW L t oth) (dC L) s0 i').length with q | q
        · exact q
        · rw [List.getElem?_eq_none q] at f1'; cases f1'
      have hpt : pt (bfs (okW L t oth) (dC L) s0 i') g = pt (bfs (okW L t oth) (dC L) s0 k') k' := by
        rw [pt_pfx wli wl px g g (Nat.le_refl _) hgl, hgk]
      obtain ⟨P, eP⟩ : ∃ P, P = pt (bfs (okW L t oth) (dC L) s0 i') g := ⟨_, rfl⟩
      rw [← eP] at hpt ev u5 u6 u8
      have hS5 := hI5.1.1
      have g1 := lp_Mo_cnt (t := nI t) (cl := nI goal) (k := nI k') hS5 q5 wl hb.2.2.1 k' k' e' 0 (Nat.le_refl _) t1 (by omega)
      rw [Nat.zero_add, ← hpt] at g1
      obtain ⟨h6, eh6⟩ : ∃ h6, h6 = sI h5 66 67 (nI P.length) := ⟨_, rfl⟩
      have s6 : Sm h5 h6 [(66, some 67)] := by rw [eh6]; exact (Sm.rf h5 _).sI rfl
      have hS6 : St h6 := by rw [eh6]; exact hS5
      have hI6 : QI o p L h6 := hI5.fr hS6 s6.fr (by decide +kernel)
      have q6 : BqM (bfs (okW L t oth) (dC L) s0 k') h6 := ⟨by rw [s6.I rfl]; exact q5.1, fun j e he => by rw [s6.I rfl, s6.I rfl, s6.I rfl]; exact q5.2.1 j e he, fun s hs => by rw [s6.I rfl]; exact q5.2.2 s hs⟩
      obtain ⟨h7, g7, s7, p7⟩ := lp_Mo_way (t := nI t) (cl := nI goal) (k := nI k') wl hb.2.2.1 k' k' e' [] h6 (Nat.le_refl _) t1 hS6 q6 (fun i x hx => by simp at hx)
      rw [List.append_nil, ← hpt] at p7
      have l6 : gI h6 66 67 = nI P.length := by rw [eh6, gI_sI, if_pos ⟨rfl, rfl⟩]
      rw [l6, ← hpt] at g7
      have hI7 : QI o p L h7 := hI6.fr (s7.St hS6 (by decide +kernel)) s7.fr (by decide +kernel)
      refine ⟨h3, h7, nI P.length, gl _ _ ev, er.trans ?_, hI0.reached (b := b) (P := P) (h3 := h3) ((fr1.trans fr12).trans fr23) hSr3 hRo3 u1 u2 u3 u4 u5 u6 u8 (s5.trans ((s6.mono (by decide)).trans (s7.mono (by decide)))) hI7 (by rw [s7.I rfl]; exact l6) p7⟩
      rw [g1, B_306_73]
      simp (disch := first | assumption | exact b2i_01 _ | decide | omega | (simp only [kd_sI, ln_sI, hl_sI, gL_sI, gR_sI, kd_sL, ln_sL, hl_sL, gI_sL, gR_sL, kd_sR, ln_sR, hl_sR, gI_sR, gL_sR, kd_cpI, ln_cpI, hl_cpI, gL_cpI, gR_cpI, gI_cpI, gI_sI, gL_sL, gR_sR, St_sI, St_sL, St_cpI, Nat.reduceEqDiff, Nat.reduceAdd, eq_self, false_and, and_false, true_and, and_true, and_self, if_true, if_false, false_or, or_false, true_or, or_true, not_true_eq_false, not_false_eq_true, reduceIte, K_66, F_66_0, F_66_10, F_66_11, F_66_12, F_66_13, F_66_14, F_66_15, F_66_16, F_66_17, F_66_18, F_66_25, F_66_26, F_66_27, F_66_28, F_66_29, F_66_30, F_66_31, F_66_32, F_66_33, F_66_34, F_66_35, F_66_36, F_66_37, F_66_38, F_66_39, F_66_60, F_66_61, F_66_62, F_66_63, F_66_66, F_66_68, F_66_69, F_66_71, F_66_72, F_66_73, F_66_74, F_66_77, F_66_78, F_66_79, F_66_80, F_66_81, F_66_84, F_66_85, F_66_86, F_66_87, hS, hS5] <;> first | done | decide | omega | fail) | fail) only [B_306_0, e_aload_n_0, e_iconst_0, P_1267, e_iload_n_1, e_call_2, psh_s, psh_n, Option.bind_some, e_if_eq, e_iload_n_2, G_1239, e_iaload, e_iconst_m1, e_ixor, e_iand, e_gotow, T_306_26, B_306_26, e_bipush_m2, R_306, T_306_29, B_306_29, e_call_3, e_istore_n_3, clr_i, clr_l, clr_a, clr_n, e_iload_n_3, e_if_ge, T_306_42, B_306_42, e_istore_4, e_istore_5, T_306_48, G_1272, e_iload_5, e_if_lt, e_iinc_4_1, e_goto, T_306_73, e_iload_4, T_306_82, e_iinc_4_m1, G_1266, G_1273, e_iastore, T_306_121, B_306_121, G_1267, kd_sI, ln_sI, hl_sI, gL_sI, gR_sI, kd_sL, ln_sL, hl_sL, gI_sL, gR_sL, kd_sR, ln_sR, hl_sR, gI_sR, gL_sR, kd_cpI, ln_cpI, hl_cpI, gL_cpI, gR_cpI, gI_cpI, gI_sI, gL_sL, gR_sR, St_sI, St_sL, St_cpI, Nat.reduceEqDiff, Nat.reduceAdd, eq_self, false_and, and_false, true_and, and_true, and_self, if_true, if_false, false_or, or_false, true_or, or_true, not_true_eq_false, not_false_eq_true, reduceIte, K_66, F_66_0, F_66_10, F_66_11, F_66_12, F_66_13, F_66_14, F_66_15, F_66_16, F_66_17, F_66_18, F_66_25, F_66_26, F_66_27, F_66_28, F_66_29, F_66_30, F_66_31, F_66_32, F_66_33, F_66_34, F_66_35, F_66_36, F_66_37, F_66_38, F_66_39, F_66_60, F_66_61, F_66_62, F_66_63, F_66_66, F_66_68, F_66_69, F_66_71, F_66_72, F_66_73, F_66_74, F_66_77, F_66_78, F_66_79, F_66_80, F_66_81, F_66_84, F_66_85, F_66_86, F_66_87, hS5]
      rw [← eh6]
      exact g7
