/-! both begin -/
theorem gL_flS (h : MH) (b n : Nat) (v : Int32) (x y : Nat) : gL (flS h b n v) x y = gL h x y := rfl
theorem gR_flS (h : MH) (b n : Nat) (v : Int32) (x y : Nat) : gR (flS h b n v) x y = gR h x y := rfl
theorem kd_flS (h : MH) (b n : Nat) (v : Int32) (x : Nat) : kd (flS h b n v) x = kd h x := rfl
theorem ln_flS (h : MH) (b n : Nat) (v : Int32) (x : Nat) : ln (flS h b n v) x = ln h x := rfl
theorem St_flS (h : MH) (b n : Nat) (v : Int32) : St (flS h b n v) = St h := rfl
def clA (o : Nat) (h : MH) : MH := sI (sI (sI h (o + 1) 1 0) (o + 4) 1 0) (o + 8) 1 0
def clB (o : Nat) (h : MH) : MH := flS (flS (flS (flS h (o + 7) 3 0) (o + 12) 12 0) (o + 13) 12 0) (o + 14) 12 0
def clC (o : Nat) (h : MH) : MH := flS (sI (sI h (o + 15) 1 0) (o + 15) 5 0) (o + 18) 13 0
def clD (o : Nat) (h : MH) : MH := sI (sI (sI (sI (sI (sI h o 12 0) o 13 0) o 14 0) o 15 1) o 16 0) o 17 0
theorem s_Fo_clear {o : Nat} {h : MH} (hS : St h) (ho : Oo o) {μ : Nat} (hμ : 4 < μ) : cal 42 [.ref (o + 15)] μ h = some (none, clC o h) := by
  have f := s_JA_fillI (h := sI (sI h (o + 15) 1 0) (o + 15) 5 0) (b := o + 18) (n := 13) (v := 0) (μ := 4) (KO_18 hS ho) (NO_18 hS ho) (by omega) (by omega) (by omega)
  rw [C_42 (o + 15) μ h (KO_15 hS ho) (Oo_p 15 ho) hμ]
  unfold clC
  rcases ho with rfl | rfl
  · simp (disch := first | assumption | exact b2i_01 _ | decide | omega | (simp only [kd_sI, ln_sI, hl_sI, gL_sI, gR_sI, kd_sL, ln_sL, hl_sL, gI_sL, gR_sL, kd_sR, ln_sR, hl_sR, gI_sR, gL_sR, kd_cpI, ln_cpI, hl_cpI, gL_cpI, gR_cpI, gI_cpI, gI_sI, gL_sL, gR_sR, St_sI, St_sL, St_cpI, Nat.reduceEqDiff, Nat.reduceAdd, eq_self, false_and, and_false, true_and, and_true, and_self, if_true, if_false, false_or, or_false, true_or, or_true, not_true_eq_false, not_false_eq_true, reduceIte, K_18, F_18_0, F_18_2, F_18_3, F_18_4, K_21, N_21, hS, f, List.length_nil, List.length_cons, Nat.zero_le] <;> first | done | decide | omega | fail) | fail) only [B_42_0, e_aload_n_0, e_iconst_0, P_101, P_105, G_103, e_call_2, psh_s, psh_n, Option.bind_some, R_42, kd_sI, ln_sI, hl_sI, gL_sI, gR_sI, kd_sL, ln_sL, hl_sL, gI_sL, gR_sL, kd_sR, ln_sR, hl_sR, gI_sR, gL_sR, kd_cpI, ln_cpI, hl_cpI, gL_cpI, gR_cpI, gI_cpI, gI_sI, gL_sL, gR_sR, St_sI, St_sL, St_cpI, Nat.reduceEqDiff, Nat.reduceAdd, eq_self, false_and, and_false, true_and, and_true, and_self, if_true, if_false, false_or, or_false, true_or, or_true, not_true_eq_false, not_false_eq_true, reduceIte, K_18, F_18_0, F_18_2, F_18_3, F_18_4, K_21, N_21, f, List.length_nil, List.length_cons, Nat.zero_le]
  · simp (disch := first | assumption | exact b2i_01 _ | decide | omega | (simp only [kd_sI, ln_sI, hl_sI, gL_sI, gR_sI, kd_sL, ln_sL, hl_sL, gI_sL, gR_sL, kd_sR, ln_sR, hl_sR, gI_sR, gL_sR, kd_cpI, ln_cpI, hl_cpI, gL_cpI, gR_cpI, gI_cpI, gI_sI, gL_sL, gR_sR, St_sI, St_sL, St_cpI, Nat.reduceEqDiff, Nat.reduceAdd, eq_self, false_and, and_false, true_and, and_true, and_self, if_true, if_false, false_or, or_false, true_or, or_true, not_true_eq_false, not_false_eq_true, reduceIte, K_38, F_38_0, F_38_2, F_38_3, F_38_4, K_41, N_41, hS, f, List.length_nil, List.length_cons, Nat.zero_le] <;> first | done | decide | omega | fail) | fail) only [B_42_0, e_aload_n_0, e_iconst_0, P_101, P_105, G_103, e_call_2, psh_s, psh_n, Option.bind_some, R_42, kd_sI, ln_sI, hl_sI, gL_sI, gR_sI, kd_sL, ln_sL, hl_sL, gI_sL, gR_sL, kd_sR, ln_sR, hl_sR, gI_sR, gL_sR, kd_cpI, ln_cpI, hl_cpI, gL_cpI, gR_cpI, gI_cpI, gI_sI, gL_sL, gR_sR, St_sI, St_sL, St_cpI, Nat.reduceEqDiff, Nat.reduceAdd, eq_self, false_and, and_false, true_and, and_true, and_self, if_true, if_false, false_or, or_false, true_or, or_true, not_true_eq_false, not_false_eq_true, reduceIte, K_38, F_38_0, F_38_2, F_38_3, F_38_4, K_41, N_41, f, List.length_nil, List.length_cons, Nat.zero_le]
theorem s_Or_clear {o : Nat} {h : MH} (hS : St h) (ho : Oo o) {μ : Nat} (hμ : 5 < μ) : cal 40 [.ref o] μ h = some (none, clD o (clC o (clB o (clA o h)))) := by
  have SA : St (clA o h) := by unfold clA; simpa only [kd_sI, ln_sI, hl_sI, gL_sI, gR_sI, kd_sL, ln_sL, hl_sL, gI_sL, gR_sL, kd_sR, ln_sR, hl_sR, gI_sR, gL_sR, kd_cpI, ln_cpI, hl_cpI, gL_cpI, gR_cpI, gI_cpI, gI_sI, gL_sL, gR_sR, St_sI, St_sL, St_cpI, Nat.reduceEqDiff, Nat.reduceAdd, eq_self, false_and, and_false, true_and, and_true, and_self, if_true, if_false, false_or, or_false, true_or, or_true, not_true_eq_false, not_false_eq_true, reduceIte] using hS
  have SB : St (clB o (clA o h)) := SA
  have SC : St (clC o (clB o (clA o h))) := by
    unfold clC
    rw [St_flS]
    simpa only [kd_sI, ln_sI, hl_sI, gL_sI, gR_sI, kd_sL, ln_sL, hl_sL, gI_sL, gR_sL, kd_sR, ln_sR, hl_sR, gI_sR, gL_sR, kd_cpI, ln_cpI, hl_cpI, gL_cpI, gR_cpI, gI_cpI, gI_sI, gL_sL, gR_sR, St_sI, St_sL, St_cpI, Nat.reduceEqDiff, Nat.reduceAdd, eq_self, false_and, and_false, true_and, and_true, and_self, if_true, if_false, false_or, or_false, true_or, or_true, not_true_eq_false, not_false_eq_true, reduceIte] using SB
  have f1 := s_JA_fillI (h := clA o h) (b := o + 7) (n := 3) (v := 0) (μ := 5) (KO_7 SA ho) (NO_7 SA ho) (by omega) (by omega) (by omega)
  have f2 := s_JA_fillI (h := flS (clA o h) (o + 7) 3 0) (b := o + 12) (n := 12) (v := 0) (μ := 5) (KO_12 SA ho) (NO_12 SA ho) (by omega) (by omega) (by omega)
  have f3 := s_JA_fillI (h := flS (flS (clA o h) (o + 7) 3 0) (o + 12) 12 0) (b := o + 13) (n := 12) (v := 0) (μ := 5) (KO_13 SA ho) (NO_13 SA ho) (by omega) (by omega) (by omega)
  have f4 := s_JA_fillI (h := flS (flS (flS (clA o h) (o + 7) 3 0) (o + 12) 12 0) (o + 13) 12 0) (b := o + 14) (n := 12) (v := 0) (μ := 5) (KO_14 SA ho) (NO_14 SA ho) (by omega) (by omega) (by omega)
  have f5 := s_Fo_clear SB ho (μ := 5) (by omega)
  have f4 : cal 41 [.ref (o + 14), .int 0] 5 (flS (flS (flS (clA o h) (o + 7) 3 0) (o + 12) 12 0) (o + 13) 12 0) = some (none, clB o (clA o h)) := f4
  have g1 : ∀ j, gR (clA o h) o j = gR h o j := fun j => rfl
  have S1 : St (flS (clA o h) (o + 7) 3 0) := SA
  have S2 : St (flS (flS (clA o h) (o + 7) 3 0) (o + 12) 12 0) := SA
  have S3 : St (flS (flS (flS (clA o h) (o + 7) 3 0) (o + 12) 12 0) (o + 13) 12 0) := SA
  rw [C_40 o μ h (KO_0 hS ho) (Oo_2 ho) hμ]
  have e0 : sI (sI (sI h (o + 1) 1 0) (o + 4) 1 0) (o + 8) 1 0 = clA o h := rfl
  generalize hA : clA o h = A at *
  generalize hB : clB o A = B at *
  generalize hC : clC o B = C at *
  rw [B_40_0]
  simp (disch := first | assumption | decide | omega | (simp only [kd_sI, ln_sI, hl_sI, gL_sI, gR_sI, kd_sL, ln_sL, hl_sL, gI_sL, gR_sL, kd_sR, ln_sR, hl_sR, gI_sR, gL_sR, kd_cpI, ln_cpI, hl_cpI, gL_cpI, gR_cpI, gI_cpI, gI_sI, gL_sL, gR_sR, St_sI, St_sL, St_cpI, Nat.reduceEqDiff, Nat.reduceAdd, eq_self, false_and, and_false, true_and, and_true, and_self, if_true, if_false, false_or, or_false, true_or, or_true, not_true_eq_false, not_false_eq_true, reduceIte, KO_0, KO_1, KO_2, NO_2, KO_3, NO_3, KO_4, KO_5, NO_5, KO_6, NO_6, KO_7, NO_7, KO_8, KO_9, NO_9, KO_10, NO_10, KO_11, NO_11, KO_12, NO_12, KO_13, NO_13, KO_14, NO_14, KO_15, KO_16, NO_16, KO_17, NO_17, KO_18, NO_18, KO_19, NO_19, FO_0_0, FO_0_1, FO_0_2, FO_0_3, FO_0_4, FO_0_5, FO_0_6, FO_0_7, FO_0_8, FO_0_9, FO_0_10, FO_0_11, FO_1_0, FO_4_0, FO_8_0, FO_15_0, FO_15_2, FO_15_3, FO_15_4, Oo_2, Oo_p, hS, ho, SA, SB, SC, S1, S2, S3] <;> first | done | decide | omega | fail)) only [e_aload_n_0, G_500, e_iconst_0, P_401, G_502, G_505, G_504, e_call_2, psh_s, psh_n, Option.bind_some, G_508, G_509, G_510, G_511, e_call_1, P_512, P_513, P_514, e_iconst_1, P_515, P_516, P_517, R_40, kd_sI, ln_sI, hl_sI, gL_sI, gR_sI, kd_sL, ln_sL, hl_sL, gI_sL, gR_sL, kd_sR, ln_sR, hl_sR, gI_sR, gL_sR, kd_cpI, ln_cpI, hl_cpI, gL_cpI, gR_cpI, gI_cpI, gI_sI, gL_sL, gR_sR, St_sI, St_sL, St_cpI, Nat.reduceEqDiff, Nat.reduceAdd, eq_self, false_and, and_false, true_and, and_true, and_self, if_true, if_false, false_or, or_false, true_or, or_true, not_true_eq_false, not_false_eq_true, reduceIte, KO_0, KO_1, KO_2, NO_2, KO_3, NO_3, KO_4, KO_5, NO_5, KO_6, NO_6, KO_7, NO_7, KO_8, KO_9, NO_9, KO_10, NO_10, KO_11, NO_11, KO_12, NO_12, KO_13, NO_13, KO_14, NO_14, KO_15, KO_16, NO_16, KO_17, NO_17, KO_18, NO_18, KO_19, NO_19, FO_0_0, FO_0_1, FO_0_2, FO_0_3, FO_0_4, FO_0_5, FO_0_6, FO_0_7, FO_0_8, FO_0_9, FO_0_10, FO_0_11, FO_1_0, FO_4_0, FO_8_0, FO_15_0, FO_15_2, FO_15_3, FO_15_4, Oo_2, Oo_p, ho, e0, SA, f1, S1, f2, S2, f3, S3, f4, SB, f5, SC, List.length_nil, List.length_cons, Nat.zero_le]
  rfl
def hpS (o : Nat) (h : MH) : MH := sI (sI (sI (clD o (clC o (clB o (clA o (sR h 45 1 (.ref o)))))) 45 2 0) 45 4 0) 45 5 (-1)
theorem s_Re_start {x : Txt} {o : Nat} {h : MH} (hS : St h) (ho : Oo o) (hT : TpC x h) {μ : Nat} (hμ : 7 < μ) : ∃ h', cal 39 [.ref 45, .ref o] μ h = some (none, h') ∧ TokC (tks x 0) h' ∧ St h' ∧ Sm (hpS o h) h' W43 := by
  have hr := Oo_rng ho
  have S0 : St (sR h 45 1 (.ref o)) := Sm.St (l := [(45, some 1)]) ((Sm.rf h _).sR rfl) hS (by decide +kernel)
  have s1 := s_Or_clear S0 ho (μ := 7) (by omega)
  have S1 : St (clD o (clC o (clB o (clA o (sR h 45 1 (.ref o)))))) := by
    unfold clD clC clB clA
    simp only [kd_sI, ln_sI, hl_sI, gL_sI, gR_sI, kd_sL, ln_sL, hl_sL, gI_sL, gR_sL, kd_sR, ln_sR, hl_sR, gI_sR, gL_sR, kd_cpI, ln_cpI, hl_cpI, gL_cpI, gR_cpI, gI_cpI, gI_sI, gL_sL, gR_sR, St_sI, St_sL, St_cpI, Nat.reduceEqDiff, Nat.reduceAdd, eq_self, false_and, and_false, true_and, and_true, and_self, if_true, if_false, false_or, or_false, true_or, or_true, not_true_eq_false, not_false_eq_true, reduceIte, St_flS]
    exact S0
  have g6 : gR (clD o (clC o (clB o (clA o (sR h 45 1 (.ref o)))))) 45 1 = .ref o := by
    unfold clD clC clB clA
    simp only [gR_sI, gR_flS, gR_sR, and_self, if_true]
  have IC : ∀ {a j : Nat}, (a = 43 ∨ a = 44) → gI (clD o (clC o (clB o (clA o (sR h 45 1 (.ref o)))))) a j = gI h a j := fun ha => by
    unfold clD clC clB clA
    simp only [gI_sI, gI_flS, gI_sR]
    repeat rw [if_neg (by omega)]
  have SS : St (hpS o h) := by unfold hpS; simpa only [kd_sI, ln_sI, hl_sI, gL_sI, gR_sI, kd_sL, ln_sL, hl_sL, gI_sL, gR_sL, kd_sR, ln_sR, hl_sR, gI_sR, gL_sR, kd_cpI, ln_cpI, hl_cpI, gL_cpI, gR_cpI, gI_cpI, gI_sI, gL_sL, gR_sR, St_sI, St_sL, St_cpI, Nat.reduceEqDiff, Nat.reduceAdd, eq_self, false_and, and_false, true_and, and_true, and_self, if_true, if_false, false_or, or_false, true_or, or_true, not_true_eq_false, not_false_eq_true, reduceIte] using S1
  have I3 : ∀ {a j : Nat}, (a = 43 ∨ a = 44) → gI (hpS o h) a j = gI h a j := fun ha => by
    unfold hpS
    rw [gI_sI, if_neg (by omega), gI_sI, if_neg (by omega), gI_sI, if_neg (by omega)]
    exact IC ha
  let hz := sI (sI (hpS o h) 43 6 0) 43 2 0
  have Sz : Sm (hpS o h) hz W43 := ((Sm.rf _ _).sI rfl).sI rfl
  have SSz : St hz := Sz.St SS stb_43
  have Tz : TpC x hz := by
    refine ⟨hT.1, ?_, fun j hj => ?_⟩
    · show gI (sI (sI (hpS o h) 43 6 0) 43 2 0) 43 1 = _
      rw [gI_sI, if_neg (by omega), gI_sI, if_neg (by omega), I3 (by omega)]
      exact hT.2.1
    · show gI (sI (sI (hpS o h) 43 6 0) 43 2 0) 44 j = _
      rw [gI_sI, if_neg (by omega), gI_sI, if_neg (by omega), I3 (by omega)]
      exact hT.2.2 j hj
  obtain ⟨h', k1, k2, k3⟩ := s_Ta_step (p := 0) SSz Tz (Nat.zero_le _) (by
    show gI (sI (sI (hpS o h) 43 6 0) 43 2 0) 43 6 = _
    rw [gI_sI, if_neg (by omega), gI_sI, if_pos ⟨rfl, rfl⟩]
    rfl) (by
    show ¬ gI (sI (sI (hpS o h) 43 6 0) 43 2 0) 43 2 = 5
    rw [gI_sI, if_pos ⟨rfl, rfl⟩]
    decide) (μ := 6) (by omega)
  refine ⟨h', ?_, k2, k3.St SSz stb_43, Sz.trans k3⟩
  have rew : cal 43 [.ref 43] 7 (hpS o h) = some (none, h') := by
    rw [C_43 43 7 _ (K_43 SS) (by decide) (by omega)]
    have hS := SS
    have k1 : cal 44 [.ref 43] 6 (sI (sI (hpS o h) 43 6 0) 43 2 0) = some (none, h') := k1
    simp (disch := first | assumption | exact b2i_01 _ | decide | omega | (simp only [kd_sI, ln_sI, hl_sI, gL_sI, gR_sI, kd_sL, ln_sL, hl_sL, gI_sL, gR_sL, kd_sR, ln_sR, hl_sR, gI_sR, gL_sR, kd_cpI, ln_cpI, hl_cpI, gL_cpI, gR_cpI, gI_cpI, gI_sI, gL_sL, gR_sR, St_sI, St_sL, St_cpI, Nat.reduceEqDiff, Nat.reduceAdd, eq_self, false_and, and_false, true_and, and_true, and_self, if_true, if_false, false_or, or_false, true_or, or_true, not_true_eq_false, not_false_eq_true, reduceIte, K_43, F_43_0, hS, k1, List.length_nil, List.length_cons, Nat.zero_le] <;> first | done | decide | omega | fail) | fail) only [B_43_0, e_aload_n_0, e_iconst_0, P_906, P_902, e_call_1, psh_s, psh_n, Option.bind_some, R_43, kd_sI, ln_sI, hl_sI, gL_sI, gR_sI, kd_sL, ln_sL, hl_sL, gI_sL, gR_sL, kd_sR, ln_sR, hl_sR, gI_sR, gL_sR, kd_cpI, ln_cpI, hl_cpI, gL_cpI, gR_cpI, gI_cpI, gI_sI, gL_sL, gR_sR, St_sI, St_sL, St_cpI, Nat.reduceEqDiff, Nat.reduceAdd, eq_self, false_and, and_false, true_and, and_true, and_self, if_true, if_false, false_or, or_false, true_or, or_true, not_true_eq_false, not_false_eq_true, reduceIte, K_43, F_43_0, k1, List.length_nil, List.length_cons, Nat.zero_le]
  rw [C_39 45 _ μ h (K_45 hS) (by decide) hμ]
  unfold hpS at rew
  have g45 : gR (clD o (clC o (clB o (clA o (sR h 45 1 (.ref o)))))) 45 0 = .ref 43 := F_45_0 S1
  generalize clD o (clC o (clB o (clA o (sR h 45 1 (.ref o))))) = hD at *
  have k45 : gR (sR h 45 1 (.ref o)) 45 1 = .ref o := by rw [gR_sR, if_pos ⟨rfl, rfl⟩]
  generalize hE : sR h 45 1 (.ref o) = E at *
  rw [B_39_0]
  simp (disch := first | assumption | decide | omega | (simp only [kd_sI, ln_sI, hl_sI, gL_sI, gR_sI, kd_sL, ln_sL, hl_sL, gI_sL, gR_sL, kd_sR, ln_sR, hl_sR, gI_sR, gL_sR, kd_cpI, ln_cpI, hl_cpI, gL_cpI, gR_cpI, gI_cpI, gI_sI, gL_sL, gR_sR, St_sI, St_sL, St_cpI, Nat.reduceEqDiff, Nat.reduceAdd, eq_self, false_and, and_false, true_and, and_true, and_self, if_true, if_false, false_or, or_false, true_or, or_true, not_true_eq_false, not_false_eq_true, reduceIte, K_45, F_45_0, hS, S0, S1] <;> first | done | decide | omega | fail)) only [e_aload_n_0, e_aload_n_1, P_601, G_601, e_call_1, psh_s, psh_n, Option.bind_some, e_iconst_0, P_602, P_604, e_iconst_m1, P_605, G_600, R_39, kd_sI, ln_sI, hl_sI, gL_sI, gR_sI, kd_sL, ln_sL, hl_sL, gI_sL, gR_sL, kd_sR, ln_sR, hl_sR, gI_sR, gL_sR, kd_cpI, ln_cpI, hl_cpI, gL_cpI, gR_cpI, gI_cpI, gI_sI, gL_sL, gR_sR, St_sI, St_sL, St_cpI, Nat.reduceEqDiff, Nat.reduceAdd, eq_self, false_and, and_false, true_and, and_true, and_self, if_true, if_false, false_or, or_false, true_or, or_true, not_true_eq_false, not_false_eq_true, reduceIte, K_45, F_45_0, hE, S0, k45, s1, S1, rew, List.length_nil, List.length_cons, Nat.zero_le]
