/-! in earnest: the beginning -/
def bgn (sd st : Int32) (j : Nat) : Int32 := if j = 0 then 0 else if j = 1 then sd else if j = 2 then st else if j < 15 then (if bit st (j - 3) = 0 then -1 else 0) else -1
def WBg : WL := [(53, some 0), (53, some 3), (53, some 4), (53, some 5), (54, none)]
theorem lp_begin {o p : Nat} {sd st : Int32} (ho : Oo o) (hp2 : p < 41) : ∀ m c h, c + m = 12 → St h → gI h 53 2 = nI p → gI h o 12 = st → (∀ j, j < 3 + c → rowC h p j = bgn sd st j) → (∀ j, j < c → rowC h p (15 + j) = -1) → ∃ h', rn 30 4 B_30_40 [some (.ref 53), some (.ref o), some (.int (nI c))] [] h = some (none, h') ∧ (∀ j, j < 27 → rowC h' p j = bgn sd st j) ∧ Sm h h' [(54, none)] := by
  have hr := Oo_rng ho
  have e10 : ((1 : Int32) = 0) = False := by simp
  intro m
  induction m with
  | zero =>
    intro c h hc hS h1 h2 h3 h4
    obtain rfl : c = 12 := by omega
    refine ⟨h, ?_, fun j hj => ?_, Sm.rf h _⟩
    · rw [B_30_40]
      simp (disch := first | assumption | exact b2i_01 _ | decide | omega | (simp only [kd_sI, ln_sI, hl_sI, gL_sI, gR_sI, kd_sL, ln_sL, hl_sL, gI_sL, gR_sL, kd_sR, ln_sR, hl_sR, gI_sR, gL_sR, kd_cpI, ln_cpI, hl_cpI, gL_cpI, gR_cpI, gI_cpI, gI_sI, gL_sL, gR_sR, St_sI, St_sL, St_cpI, Nat.reduceEqDiff, Nat.reduceAdd, eq_self, false_and, and_false, true_and, and_true, and_self, if_true, if_false, false_or, or_false, true_or, or_true, not_true_eq_false, not_false_eq_true, reduceIte, K_53, F_53_1, hS, show ((12 : Int32) ≤ nI 12) = True by decide] <;> first | done | decide | omega | fail) | fail) only [B_30_0, e_aload_n_0, e_aload_n_1, P_800, e_iconst_0, P_803, e_call_1, psh_s, psh_n, Option.bind_some, e_call_3, e_iconst_1, G_517, e_iconst_2, G_512, e_istore_n_2, clr_i, clr_l, clr_a, clr_n, e_gotow, T_30_40, e_iload_n_2, e_bipush_12, e_ic_ge, e_iconst_3, e_iadd, e_ishr, e_iand, e_if_eq, e_goto, T_30_65, B_30_65, e_iconst_m1, T_30_66, B_30_66, e_bipush_15, e_iinc_2_1, T_30_84, B_30_84, R_30, kd_sI, ln_sI, hl_sI, gL_sI, gR_sI, kd_sL, ln_sL, hl_sL, gI_sL, gR_sL, kd_sR, ln_sR, hl_sR, gI_sR, gL_sR, kd_cpI, ln_cpI, hl_cpI, gL_cpI, gR_cpI, gI_cpI, gI_sI, gL_sL, gR_sR, St_sI, St_sL, St_cpI, Nat.reduceEqDiff, Nat.reduceAdd, eq_self, false_and, and_false, true_and, and_true, and_self, if_true, if_false, false_or, or_false, true_or, or_true, not_true_eq_false, not_false_eq_true, reduceIte, K_53, F_53_1, show ((12 : Int32) ≤ nI 12) = True by decide]
    · by_cases q : j < 15
      · exact h3 j (by omega)
      · have := h4 (j - 15) (by omega)
        rw [show 15 + (j - 15) = j by omega] at this
        rw [this]
        unfold bgn
        rw [if_neg (by omega), if_neg (by omega), if_neg (by omega), if_neg q]
  | succ m ih =>
    intro c h hc hS h1 h2 h3 h4
    have lt : ((12 : Int32) ≤ nI c) = False := (eq_false (by simp (disch := omega) only [nI_lit, nI_add, lt_nI, le_nI, eq_nI] <;> omega) : ((12 : Int32) ≤ nI c) = False)
    have e3 : (3 : Int32) + nI c = nI (3 + c) := by rw [nI_lit, nI_add]
    have e15 : (15 : Int32) + nI c = nI (15 + c) := by rw [nI_lit, nI_add]
    let v : Int32 := if bit st c = 0 then -1 else 0
    have w1 := s_Sn_write (v := v) (j := 3 + c) hS h1 (by omega) (by omega) (μ := 4) (by omega)
    have hS1 : St (sI h 54 (p * 27 + (3 + c)) v) := by simpa only [kd_sI, ln_sI, hl_sI, gL_sI, gR_sI, kd_sL, ln_sL, hl_sL, gI_sL, gR_sL, kd_sR, ln_sR, hl_sR, gI_sR, gL_sR, kd_cpI, ln_cpI, hl_cpI, gL_cpI, gR_cpI, gI_cpI, gI_sI, gL_sL, gR_sR, St_sI, St_sL, St_cpI, Nat.reduceEqDiff, Nat.reduceAdd, eq_self, false_and, and_false, true_and, and_true, and_self, if_true, if_false, false_or, or_false, true_or, or_true, not_true_eq_false, not_false_eq_true, reduceIte] using hS
    have w2 := s_Sn_write (h := sI h 54 (p * 27 + (3 + c)) v) (v := -1) (j := 15 + c) hS1 (by rw [gI_sI, if_neg (by omega)]; exact h1) (by omega) (by omega) (μ := 4) (by omega)
    have hS2 : St (sI (sI h 54 (p * 27 + (3 + c)) v) 54 (p * 27 + (15 + c)) (-1)) := by simpa only [kd_sI, ln_sI, hl_sI, gL_sI, gR_sI, kd_sL, ln_sL, hl_sL, gI_sL, gR_sL, kd_sR, ln_sR, hl_sR, gI_sR, gL_sR, kd_cpI, ln_cpI, hl_cpI, gL_cpI, gR_cpI, gI_cpI, gI_sI, gL_sL, gR_sR, St_sI, St_sL, St_cpI, Nat.reduceEqDiff, Nat.reduceAdd, eq_self, false_and, and_false, true_and, and_true, and_self, if_true, if_false, false_or, or_false, true_or, or_true, not_true_eq_false, not_false_eq_true, reduceIte] using hS
    have R : ∀ j, ¬ j = 3 + c → ¬ j = 15 + c → rowC (sI (sI h 54 (p * 27 + (3 + c)) v) 54 (p * 27 + (15 + c)) (-1)) p j = rowC h p j := fun j q1 q2 => by
      unfold rowC
      rw [gI_sI, if_neg (by omega), gI_sI, if_neg (by omega)]
    obtain ⟨h2', z1, z2, z3⟩ := ih (c + 1) (sI (sI h 54 (p * 27 + (3 + c)) v) 54 (p * 27 + (15 + c)) (-1)) (by omega) hS2 (by rw [gI_sI, if_neg (by omega), gI_sI, if_neg (by omega)]; exact h1) (by rw [gI_sI, if_neg (by omega), gI_sI, if_neg (by omega)]; exact h2) (fun j hj => by
      by_cases q : j = 3 + c
      · unfold rowC
        rw [gI_sI, if_neg (by omega), gI_sI, if_pos ⟨rfl, by omega⟩]
        unfold bgn
        rw [if_neg (by omega), if_neg (by omega), if_neg (by omega), if_pos (by omega), show j - 3 = c by omega]
      · rw [R j q (by omega)]; exact h3 j (by omega)) (fun j hj => by
      by_cases q : j = c
      · unfold rowC
        rw [gI_sI, if_pos ⟨rfl, by omega⟩]
      · rw [R _ (by omega) (by omega)]; exact h4 j (by omega))
    refine ⟨h2', ?_, z2, ((((Sm.rf h _).sI rfl).sI rfl).trans z3)⟩
    rw [← z1]
    conv => lhs; rw [B_30_40]
    by_cases q : bit st c = 0
    · have vv : v = -1 := if_pos q
      rw [vv] at w1 w2 ⊢
      unfold bit at q
      simp (disch := first | assumption | exact b2i_01 _ | decide | omega | (simp only [kd_sI, ln_sI, hl_sI, gL_sI, gR_sI, kd_sL, ln_sL, hl_sL, gI_sL, gR_sL, kd_sR, ln_sR, hl_sR, gI_sR, gL_sR, kd_cpI, ln_cpI, hl_cpI, gL_cpI, gR_cpI, gI_cpI, gI_sI, gL_sL, gR_sR, St_sI, St_sL, St_cpI, Nat.reduceEqDiff, Nat.reduceAdd, eq_self, false_and, and_false, true_and, and_true, and_self, if_true, if_false, false_or, or_false, true_or, or_true, not_true_eq_false, not_false_eq_true, reduceIte, K_53, F_53_1, KO_0, KO_1, KO_2, NO_2, KO_3, NO_3, KO_4, KO_5, NO_5, KO_6, NO_6, KO_7, NO_7, KO_8, KO_9, NO_9, KO_10, NO_10, KO_11, NO_11, KO_12, NO_12, KO_13, NO_13, KO_14, NO_14, KO_15, KO_16, NO_16, KO_17, NO_17, KO_18, NO_18, KO_19, NO_19, FO_0_0, FO_0_1, FO_0_2, FO_0_3, FO_0_4, FO_0_5, FO_0_6, FO_0_7, FO_0_8, FO_0_9, FO_0_10, FO_0_11, FO_1_0, FO_4_0, FO_8_0, FO_15_0, FO_15_2, FO_15_3, FO_15_4, Oo_2, Oo_p, hS, lt, e3, e15, ho, h2, q, w1, w2, nI_1, List.length_nil, List.length_cons, Nat.zero_le] <;> first | done | decide | omega | fail) | fail) only [B_30_0, e_aload_n_0, e_aload_n_1, P_800, e_iconst_0, P_803, e_call_1, psh_s, psh_n, Option.bind_some, e_call_3, e_iconst_1, G_517, e_iconst_2, G_512, e_istore_n_2, clr_i, clr_l, clr_a, clr_n, e_gotow, T_30_40, e_iload_n_2, e_bipush_12, e_ic_ge, e_iconst_3, e_iadd, e_ishr, e_iand, e_if_eq, e_goto, T_30_65, B_30_65, e_iconst_m1, T_30_66, B_30_66, e_bipush_15, e_iinc_2_1, T_30_84, B_30_84, R_30, kd_sI, ln_sI, hl_sI, gL_sI, gR_sI, kd_sL, ln_sL, hl_sL, gI_sL, gR_sL, kd_sR, ln_sR, hl_sR, gI_sR, gL_sR, kd_cpI, ln_cpI, hl_cpI, gL_cpI, gR_cpI, gI_cpI, gI_sI, gL_sL, gR_sR, St_sI, St_sL, St_cpI, Nat.reduceEqDiff, Nat.reduceAdd, eq_self, false_and, and_false, true_and, and_true, and_self, if_true, if_false, false_or, or_false, true_or, or_true, not_true_eq_false, not_false_eq_true, reduceIte, K_53, F_53_1, KO_0, KO_1, KO_2, NO_2, KO_3, NO_3, KO_4, KO_5, NO_5, KO_6, NO_6, KO_7, NO_7, KO_8, KO_9, NO_9, KO_10, NO_10, KO_11, NO_11, KO_12, NO_12, KO_13, NO_13, KO_14, NO_14, KO_15, KO_16, NO_16, KO_17, NO_17, KO_18, NO_18, KO_19, NO_19, FO_0_0, FO_0_1, FO_0_2, FO_0_3, FO_0_4, FO_0_5, FO_0_6, FO_0_7, FO_0_8, FO_0_9, FO_0_10, FO_0_11, FO_1_0, FO_4_0, FO_8_0, FO_15_0, FO_15_2, FO_15_3, FO_15_4, Oo_2, Oo_p, lt, e3, e15, ho, h2, q, w1, w2, nI_1, List.length_nil, List.length_cons, Nat.zero_le]
    · have vv : v = 0 := if_neg q
      rw [vv] at w1 w2 ⊢
      unfold bit at q
      simp (disch := first | assumption | exact b2i_01 _ | decide | omega | (simp only [kd_sI, ln_sI, hl_sI, gL_sI, gR_sI, kd_sL, ln_sL, hl_sL, gI_sL, gR_sL, kd_sR, ln_sR, hl_sR, gI_sR, gL_sR, kd_cpI, ln_cpI, hl_cpI, gL_cpI, gR_cpI, gI_cpI, gI_sI, gL_sL, gR_sR, St_sI, St_sL, St_cpI, Nat.reduceEqDiff, Nat.reduceAdd, eq_self, false_and, and_false, true_and, and_true, and_self, if_true, if_false, false_or, or_false, true_or, or_true, not_true_eq_false, not_false_eq_true, reduceIte, K_53, F_53_1, KO_0, KO_1, KO_2, NO_2, KO_3, NO_3, KO_4, KO_5, NO_5, KO_6, NO_6, KO_7, NO_7, KO_8, KO_9, NO_9, KO_10, NO_10, KO_11, NO_11, KO_12, NO_12, KO_13, NO_13, KO_14, NO_14, KO_15, KO_16, NO_16, KO_17, NO_17, KO_18, NO_18, KO_19, NO_19, FO_0_0, FO_0_1, FO_0_2, FO_0_3, FO_0_4, FO_0_5, FO_0_6, FO_0_7, FO_0_8, FO_0_9, FO_0_10, FO_0_11, FO_1_0, FO_4_0, FO_8_0, FO_15_0, FO_15_2, FO_15_3, FO_15_4, Oo_2, Oo_p, hS, lt, e3, e15, ho, h2, q, w1, w2, nI_1, List.length_nil, List.length_cons, Nat.zero_le] <;> first | done | decide | omega | fail) | fail) only [B_30_0, e_aload_n_0, e_aload_n_1, P_800, e_iconst_0, P_803, e_call_1, psh_s, psh_n, Option.bind_some, e_call_3, e_iconst_1, G_517, e_iconst_2, G_512, e_istore_n_2, clr_i, clr_l, clr_a, clr_n, e_gotow, T_30_40, e_iload_n_2, e_bipush_12, e_ic_ge, e_iconst_3, e_iadd, e_ishr, e_iand, e_if_eq, e_goto, T_30_65, B_30_65, e_iconst_m1, T_30_66, B_30_66, e_bipush_15, e_iinc_2_1, T_30_84, B_30_84, R_30, kd_sI, ln_sI, hl_sI, gL_sI, gR_sI, kd_sL, ln_sL, hl_sL, gI_sL, gR_sL, kd_sR, ln_sR, hl_sR, gI_sR, gL_sR, kd_cpI, ln_cpI, hl_cpI, gL_cpI, gR_cpI, gI_cpI, gI_sI, gL_sL, gR_sR, St_sI, St_sL, St_cpI, Nat.reduceEqDiff, Nat.reduceAdd, eq_self, false_and, and_false, true_and, and_true, and_self, if_true, if_false, false_or, or_false, true_or, or_true, not_true_eq_false, not_false_eq_true, reduceIte, K_53, F_53_1, KO_0, KO_1, KO_2, NO_2, KO_3, NO_3, KO_4, KO_5, NO_5, KO_6, NO_6, KO_7, NO_7, KO_8, KO_9, NO_9, KO_10, NO_10, KO_11, NO_11, KO_12, NO_12, KO_13, NO_13, KO_14, NO_14, KO_15, KO_16, NO_16, KO_17, NO_17, KO_18, NO_18, KO_19, NO_19, FO_0_0, FO_0_1, FO_0_2, FO_0_3, FO_0_4, FO_0_5, FO_0_6, FO_0_7, FO_0_8, FO_0_9, FO_0_10, FO_0_11, FO_1_0, FO_4_0, FO_8_0, FO_15_0, FO_15_2, FO_15_3, FO_15_4, Oo_2, Oo_p, lt, e3, e15, ho, h2, q, w1, w2, nI_1, List.length_nil, List.length_cons, Nat.zero_le]
theorem s_Sn_begin {o p : Nat} {h : MH} (hS : St h) (ho : Oo o) (hp : gI h 53 2 = nI p) (hp2 : p < 41) {μ : Nat} (hμ : 4 < μ) : ∃ h', cal 30 [.ref 53, .ref o] μ h = some (none, h') ∧ (∀ j, j < 27 → rowC h' p j = bgn (gI h o 17) (gI h o 12) j) ∧ gR h' 53 0 = .ref o ∧ gI h' 53 3 = 0 ∧ gI h' 53 4 = 0 ∧ gI h' 53 5 = 0 ∧ St h' ∧ Sm h h' WBg := by
  have hr := Oo_rng ho
  let hA := sI (sI (sI (sR h 53 0 (.ref o)) 53 3 0) 53 4 0) 53 5 0
  have sA : Sm h hA WBg := ((((Sm.rf h _).sR rfl).sI rfl).sI rfl).sI rfl
  have SA : St hA := sA.St hS (by decide +kernel)
  have S1 : St (sI (sR h 53 0 (.ref o)) 53 3 0) := Sm.St (l := WBg) (((Sm.rf h _).sR rfl).sI rfl) hS (by decide +kernel)
  have IA : ∀ {a j : Nat}, ¬ a = 53 → gI hA a j = gI h a j := fun {a j} q => by
    show gI (sI (sI (sI (sR h 53 0 (.ref o)) 53 3 0) 53 4 0) 53 5 0) a j = _
    rw [gI_sI, if_neg (fun z => q z.1), gI_sI, if_neg (fun z => q z.1), gI_sI, if_neg (fun z => q z.1), gI_sR]
  have pA : gI hA 53 2 = nI p := by
    show gI (sI (sI (sI (sR h 53 0 (.ref o)) 53 3 0) 53 4 0) 53 5 0) 53 2 = _
    rw [gI_sI, if_neg (by omega), gI_sI, if_neg (by omega), gI_sI, if_neg (by omega), gI_sR]
    exact hp
  have fa : cal 31 [.ref 53] 4 (sI (sR h 53 0 (.ref o)) 53 3 0) = some (none, hA) := by
    rw [C_31 53 4 _ (K_53 S1) (by decide) (by omega)]
    have hS := S1
    simp (disch := first | assumption | exact b2i_01 _ | decide | omega | (simp only [kd_sI, ln_sI, hl_sI, gL_sI, gR_sI, kd_sL, ln_sL, hl_sL, gI_sL, gR_sL, kd_sR, ln_sR, hl_sR, gI_sR, gL_sR, kd_cpI, ln_cpI, hl_cpI, gL_cpI, gR_cpI, gI_cpI, gI_sI, gL_sL, gR_sR, St_sI, St_sL, St_cpI, Nat.reduceEqDiff, Nat.reduceAdd, eq_self, false_and, and_false, true_and, and_true, and_self, if_true, if_false, false_or, or_false, true_or, or_true, not_true_eq_false, not_false_eq_true, reduceIte, K_53, F_53_1, hS, List.length_nil, List.length_cons, Nat.zero_le] <;> first | done | decide | omega | fail) | fail) only [B_31_0, e_aload_n_0, e_iconst_0, P_804, P_805, R_31, kd_sI, ln_sI, hl_sI, gL_sI, gR_sI, kd_sL, ln_sL, hl_sL, gI_sL, gR_sL, kd_sR, ln_sR, hl_sR, gI_sR, gL_sR, kd_cpI, ln_cpI, hl_cpI, gL_cpI, gR_cpI, gI_cpI, gI_sI, gL_sL, gR_sR, St_sI, St_sL, St_cpI, Nat.reduceEqDiff, Nat.reduceAdd, eq_self, false_and, and_false, true_and, and_true, and_self, if_true, if_false, false_or, or_false, true_or, or_true, not_true_eq_false, not_false_eq_true, reduceIte, K_53, F_53_1, List.length_nil, List.length_cons, Nat.zero_le]
    rfl
  have w0 := s_Sn_write (h := hA) (v := 0) (j := 0) SA pA (by omega) (by omega) (μ := 4) (by omega)
  let hB := sI hA 54 (p * 27 + 0) 0
  have SB : St hB := by show St (sI hA 54 (p * 27 + 0) 0); simpa only [kd_sI, ln_sI, hl_sI, gL_sI, gR_sI, kd_sL, ln_sL, hl_sL, gI_sL, gR_sL, kd_sR, ln_sR, hl_sR, gI_sR, gL_sR, kd_cpI, ln_cpI, hl_cpI, gL_cpI, gR_cpI, gI_cpI, gI_sI, gL_sL, gR_sR, St_sI, St_sL, St_cpI, Nat.reduceEqDiff, Nat.reduceAdd, eq_self, false_and, and_false, true_and, and_true, and_self, if_true, if_false, false_or, or_false, true_or, or_true, not_true_eq_false, not_false_eq_true, reduceIte] using SA
  have pB : gI hB 53 2 = nI p := by show gI (sI hA 54 (p * 27 + 0) 0) 53 2 = _; rw [gI_sI, if_neg (by omega)]; exact pA
  have w1 := s_Sn_write (h := hB) (v := gI h o 17) (j := 1) SB pB (by omega) (by omega) (μ := 4) (by omega)
  let hC := sI hB 54 (p * 27 + 1) (gI h o 17)
  have SC : St hC := by show St (sI hB 54 (p * 27 + 1) (gI h o 17)); simpa only [kd_sI, ln_sI, hl_sI, gL_sI, gR_sI, kd_sL, ln_sL, hl_sL, gI_sL, gR_sL, kd_sR, ln_sR, hl_sR, gI_sR, gL_sR, kd_cpI, ln_cpI, hl_cpI, gL_cpI, gR_cpI, gI_cpI, gI_sI, gL_sL, gR_sR, St_sI, St_sL, St_cpI, Nat.reduceEqDiff, Nat.reduceAdd, eq_self, false_and, and_false, true_and, and_true, and_self, if_true, if_false, false_or, or_false, true_or, or_true, not_true_eq_false, not_false_eq_true, reduceIte] using SB
  have pC : gI hC 53 2 = nI p := by show gI (sI hB 54 (p * 27 + 1) (gI h o 17)) 53 2 = _; rw [gI_sI, if_neg (by omega)]; exact pB
  have w2 := s_Sn_write (h := hC) (v := gI h o 12) (j := 2) SC pC (by omega) (by omega) (μ := 4) (by omega)
  let hD := sI hC 54 (p * 27 + 2) (gI h o 12)
  have SD : St hD := by show St (sI hC 54 (p * 27 + 2) (gI h o 12)); simpa only [kd_sI, ln_sI, hl_sI, gL_sI, gR_sI, kd_sL, ln_sL, hl_sL, gI_sL, gR_sL, kd_sR, ln_sR, hl_sR, gI_sR, gL_sR, kd_cpI, ln_cpI, hl_cpI, gL_cpI, gR_cpI, gI_cpI, gI_sI, gL_sL, gR_sR, St_sI, St_sL, St_cpI, Nat.reduceEqDiff, Nat.reduceAdd, eq_self, false_and, and_false, true_and, and_true, and_self, if_true, if_false, false_or, or_false, true_or, or_true, not_true_eq_false, not_false_eq_true, reduceIte] using SC
  have ID : ∀ {a j : Nat}, ¬ a = 54 → gI hD a j = gI hA a j := fun {a j} q => by
    show gI (sI (sI (sI hA 54 (p * 27 + 0) 0) 54 (p * 27 + 1) (gI h o 17)) 54 (p * 27 + 2) (gI h o 12)) a j = _
    rw [gI_sI, if_neg (fun z => q z.1), gI_sI, if_neg (fun z => q z.1), gI_sI, if_neg (fun z => q z.1)]
  obtain ⟨h', z1, z2, z3⟩ := lp_begin (sd := gI h o 17) (st := gI h o 12) ho hp2 12 0 hD (by omega) SD (by rw [ID (by omega)]; exact pA) (by rw [ID (by omega), IA (by omega)]) (fun j hj => by
    unfold rowC
    show gI (sI (sI (sI hA 54 (p * 27 + 0) 0) 54 (p * 27 + 1) (gI h o 17)) 54 (p * 27 + 2) (gI h o 12)) 54 (p * 27 + j) = _
    rcases (show j = 0 ∨ j = 1 ∨ j = 2 by omega) with rfl | rfl | rfl
    · rw [gI_sI, if_neg (by omega), gI_sI, if_neg (by omega), gI_sI, if_pos ⟨rfl, rfl⟩]; rfl
    · rw [gI_sI, if_neg (by omega), gI_sI, if_pos ⟨rfl, rfl⟩]; rfl
    · rw [gI_sI, if_pos ⟨rfl, rfl⟩]; rfl) (fun j hj => absurd hj (by omega))
  have sD : Sm h hD WBg := ((sA.sI (by rfl)).sI (by rfl)).sI (by rfl)
  have sE := sD.trans (z3.mono (l' := WBg) (by unfold WBg; simp))
  have I' : ∀ {j : Nat}, gI h' 53 j = gI hA 53 j := fun {j} => by rw [z3.I rfl, ID (by omega)]
  refine ⟨h', ?_, z2, ?_, ?_, ?_, ?_, sE.St hS (by decide +kernel), sE⟩
  · rw [C_30 53 _ μ h (K_53 hS) (by decide) hμ, ← z1]
    have w0 : cal 32 [.ref 53, .int 0, .int 0] 4 hA = some (none, hB) := w0
    have w1 : cal 32 [.ref 53, .int 1, .int (gI h o 17)] 4 hB = some (none, hC) := w1
    have w2 : cal 32 [.ref 53, .int 2, .int (gI h o 12)] 4 hC = some (none, hD) := w2
    have i17 : gI hB o 17 = gI h o 17 := by show gI (sI hA 54 (p * 27 + 0) 0) o 17 = _; rw [gI_sI, if_neg (by omega), IA (by omega)]
    have i12 : gI hC o 12 = gI h o 12 := by show gI (sI (sI hA 54 (p * 27 + 0) 0) 54 (p * 27 + 1) (gI h o 17)) o 12 = _; rw [gI_sI, if_neg (by omega), gI_sI, if_neg (by omega), IA (by omega)]
    generalize hD = D at w2 ⊢
    generalize hC = Cc at w1 w2 SC i12
    generalize hB = Bb at w0 w1 SB i17
    generalize hA = Aa at fa w0 SA
    conv => lhs; rw [B_30_0]
    simp (disch := first | assumption | exact b2i_01 _ | decide | omega | (simp only [kd_sI, ln_sI, hl_sI, gL_sI, gR_sI, kd_sL, ln_sL, hl_sL, gI_sL, gR_sL, kd_sR, ln_sR, hl_sR, gI_sR, gL_sR, kd_cpI, ln_cpI, hl_cpI, gL_cpI, gR_cpI, gI_cpI, gI_sI, gL_sL, gR_sR, St_sI, St_sL, St_cpI, Nat.reduceEqDiff, Nat.reduceAdd, eq_self, false_and, and_false, true_and, and_true, and_self, if_true, if_false, false_or, or_false, true_or, or_true, not_true_eq_false, not_false_eq_true, reduceIte, K_53, F_53_1, KO_0, KO_1, KO_2, NO_2, KO_3, NO_3, KO_4, KO_5, NO_5, KO_6, NO_6, KO_7, NO_7, KO_8, KO_9, NO_9, KO_10, NO_10, KO_11, NO_11, KO_12, NO_12, KO_13, NO_13, KO_14, NO_14, KO_15, KO_16, NO_16, KO_17, NO_17, KO_18, NO_18, KO_19, NO_19, FO_0_0, FO_0_1, FO_0_2, FO_0_3, FO_0_4, FO_0_5, FO_0_6, FO_0_7, FO_0_8, FO_0_9, FO_0_10, FO_0_11, FO_1_0, FO_4_0, FO_8_0, FO_15_0, FO_15_2, FO_15_3, FO_15_4, Oo_2, Oo_p, hS, ho, fa, SA, w0, SB, i17, w1, SC, i12, w2, List.length_nil, List.length_cons, Nat.zero_le] <;> first | done | decide | omega | fail) | fail) only [e_aload_n_0, e_aload_n_1, P_800, e_iconst_0, P_803, e_call_1, psh_s, psh_n, Option.bind_some, e_call_3, e_iconst_1, G_517, e_iconst_2, G_512, e_istore_n_2, clr_i, clr_l, clr_a, clr_n, e_gotow, T_30_40, e_iload_n_2, e_bipush_12, e_ic_ge, e_iconst_3, e_iadd, e_ishr, e_iand, e_if_eq, e_goto, T_30_65, B_30_65, e_iconst_m1, T_30_66, B_30_66, e_bipush_15, e_iinc_2_1, T_30_84, B_30_84, R_30, kd_sI, ln_sI, hl_sI, gL_sI, gR_sI, kd_sL, ln_sL, hl_sL, gI_sL, gR_sL, kd_sR, ln_sR, hl_sR, gI_sR, gL_sR, kd_cpI, ln_cpI, hl_cpI, gL_cpI, gR_cpI, gI_cpI, gI_sI, gL_sL, gR_sR, St_sI, St_sL, St_cpI, Nat.reduceEqDiff, Nat.reduceAdd, eq_self, false_and, and_false, true_and, and_true, and_self, if_true, if_false, false_or, or_false, true_or, or_true, not_true_eq_false, not_false_eq_true, reduceIte, K_53, F_53_1, KO_0, KO_1, KO_2, NO_2, KO_3, NO_3, KO_4, KO_5, NO_5, KO_6, NO_6, KO_7, NO_7, KO_8, KO_9, NO_9, KO_10, NO_10, KO_11, NO_11, KO_12, NO_12, KO_13, NO_13, KO_14, NO_14, KO_15, KO_16, NO_16, KO_17, NO_17, KO_18, NO_18, KO_19, NO_19, FO_0_0, FO_0_1, FO_0_2, FO_0_3, FO_0_4, FO_0_5, FO_0_6, FO_0_7, FO_0_8, FO_0_9, FO_0_10, FO_0_11, FO_1_0, FO_4_0, FO_8_0, FO_15_0, FO_15_2, FO_15_3, FO_15_4, Oo_2, Oo_p, ho, fa, SA, w0, SB, i17, w1, SC, i12, w2, List.length_nil, List.length_cons, Nat.zero_le]
    rfl
  · rw [z3.R rfl]
    show gR (sR h 53 0 (.ref o)) 53 0 = _
    rw [gR_sR, if_pos ⟨rfl, rfl⟩]
  · rw [I']
    show gI (sI (sI (sI (sR h 53 0 (.ref o)) 53 3 0) 53 4 0) 53 5 0) 53 3 = _
    rw [gI_sI, if_neg (by omega), gI_sI, if_neg (by omega), gI_sI, if_pos ⟨rfl, rfl⟩]
  · rw [I']
    show gI (sI (sI (sI (sR h 53 0 (.ref o)) 53 3 0) 53 4 0) 53 5 0) 53 4 = _
    rw [gI_sI, if_neg (by omega), gI_sI, if_pos ⟨rfl, rfl⟩]
  · rw [I']
    show gI (sI (sI (sI (sR h 53 0 (.ref o)) 53 3 0) 53 4 0) 53 5 0) 53 5 = _
    rw [gI_sI, if_pos ⟨rfl, rfl⟩]
def WSt (o : Nat) : WL := (55, some 2) :: (58, some 5) :: (64, some 1) :: (WGr o ++ WBg)
theorem wSt {o a j : Nat} (h : wr (WSt o) a j = true) : (a = 46 ∧ j ≤ 1) ∨ (47 ≤ a ∧ a ≤ 52) ∨ a = o + 19 ∨ (a = 53 ∧ ¬ j = 2 ∧ ¬ j = 1) ∨ a = 54 ∨ (a = 55 ∧ j = 2) ∨ (a = 58 ∧ j = 5) ∨ (a = 64 ∧ j = 1) := by
  unfold WSt WGr WBg wr wr1 at h
  simp only [List.cons_append, List.nil_append, List.any_cons, List.any_nil, Bool.or_eq_true, Bool.and_eq_true, beq_iff_eq, Bool.false_eq_true, or_false] at h
  omega
theorem wSt_no {o a j : Nat} (h : ¬ ((a = 46 ∧ j ≤ 1) ∨ (47 ≤ a ∧ a ≤ 52) ∨ a = o + 19 ∨ (a = 53 ∧ ¬ j = 2 ∧ ¬ j = 1) ∨ a = 54 ∨ (a = 55 ∧ j = 2) ∨ (a = 58 ∧ j = 5) ∨ (a = 64 ∧ j = 1))) : wr (WSt o) a j = false := by
  cases c : wr (WSt o) a j with
  | false => rfl
  | true => exact absurd (wSt c) h
theorem s_GL_settle {o sa p : Nat} {L : LD} {Fs : Nat → List (Int32 × Int32)} {ss : Nat → Nat} {FA : List (Int32 × Int32)} {am : Bool} {h : MH} (ho : Oo o) (hB : SzB L) (hS : St h) (hl : gR h 2 7 = .ref o) (hp : gI h 53 2 = nI p) (hp2 : p < 41)
    (hT : gI h (o + 1) 1 = nI (dT L) ∧ ∀ t, t < dT L → gI h (o + 3) t = nI (dSize L t)) (hF : Fo2 o L Fs ss h) (hAm : Am2 o L FA sa am h)
    (hCl : (∀ c, c < dC L → gI h (o + 10) c = nI (dHome L c) ∧ dHome L c < 3 ∧ gI h (o + 12) c = dTold L c) ∧ ∀ c, c < dC L → gI h (o + 6) (dHome L c) = dHow L (dHome L c))
    (hN : dN L = dNs L) (hN2 : dN L ≤ 256) (hA : ∀ k, k < dN L → dApp L k = apv L Fs k (dC L)) {μ : Nat} (hμ : 8 < μ) :
    ∃ h', cal 13 [.ref 2] μ h = some (none, h') ∧ St h' ∧ gR h' 46 0 = .ref o ∧ gI h' 46 1 = nI (dN L) ∧ (∀ s, s < 4 → gI h' 47 s = nI (strd L s 4)) ∧ (∀ k, k < dN L → gI h' 49 k = dApp L k ∧ gI h' 50 k = amv L FA am k) ∧ (∀ j, j < 12 → gI h' 51 j = ovb L j (dC L)) ∧ (∀ j, j < 4096 → gI h' 52 j = -3) ∧ (∀ j, j < 27 → rowC h' p j = bgn (gI h o 17) (gI h o 12) j) ∧ gR h' 53 0 = .ref o ∧ gI h' 53 3 = 0 ∧ gI h' 53 4 = 0 ∧ gI h' 53 5 = 0 ∧ gI h' 55 2 = 0 ∧ gI h' 58 5 = 0 ∧ gI h' 64 1 = 0 ∧ Sm h h' (WSt o) := by
  have hr := Oo_rng ho
  obtain ⟨h1, k1, S1, a1, a2, a3, a4, a5, a6, m1⟩ := s_Ca_grow (Fs := Fs) (ss := ss) (FA := FA) (sa := sa) (am := am) ho hB hS hT hF hAm hCl hN hN2 hA (μ := 8) (by omega)
  have I1 : ∀ {a j : Nat}, ¬ ((a = 46 ∧ j ≤ 1) ∨ (47 ≤ a ∧ a ≤ 52) ∨ a = o + 19) → gI h1 a j = gI h a j := fun q => m1.I (wGr_no q)
  obtain ⟨h2, k2, b1, b2, b3, b4, b5, S2, m2⟩ := s_Sn_begin S1 ho (by rw [I1 (by omega)]; exact hp) hp2 (μ := 8) (by omega)
  rw [I1 (by omega), I1 (by omega)] at b1
  have wB : ∀ {a j : Nat}, ¬ a = 53 → ¬ a = 54 → wr WBg a j = false := fun {a j} q1 q2 => by
    unfold WBg wr wr1
    simp only [List.any_cons, List.any_nil, show (53 == a) = false by simpa using fun z : 53 = a => q1 z.symm, show (54 == a) = false by simpa using fun z : 54 = a => q2 z.symm, Bool.false_and, Bool.or_self]
  have I2 : ∀ {a j : Nat}, ¬ a = 53 → ¬ a = 54 → gI h2 a j = gI h1 a j := fun q1 q2 => m2.I (wB q1 q2)
  have hl1 : gR h1 2 7 = .ref o := by rw [m1.R (wGr_no (by omega))]; exact hl
  have w1 : ∀ q ∈ WGr o, q ∈ WSt o := fun q hq => List.mem_cons_of_mem _ (List.mem_cons_of_mem _ (List.mem_cons_of_mem _ (List.mem_append_left _ hq)))
  have w2 : ∀ q ∈ WBg, q ∈ WSt o := fun q hq => List.mem_cons_of_mem _ (List.mem_cons_of_mem _ (List.mem_cons_of_mem _ (List.mem_append_right _ hq)))
  have I3 : ∀ {a j : Nat}, ¬ (a = 55 ∧ j = 2) → ¬ (a = 58 ∧ j = 5) → ¬ (a = 64 ∧ j = 1) → gI (sI (sI (sI h2 55 2 0) 58 5 0) 64 1 0) a j = gI h2 a j := fun q1 q2 q3 => by
    rw [gI_sI, if_neg q3, gI_sI, if_neg q2, gI_sI, if_neg q1]
  refine ⟨sI (sI (sI h2 55 2 0) 58 5 0) 64 1 0, ?_, by simpa only [kd_sI, ln_sI, hl_sI, gL_sI, gR_sI, kd_sL, ln_sL, hl_sL, gI_sL, gR_sL, kd_sR, ln_sR, hl_sR, gI_sR, gL_sR, kd_cpI, ln_cpI, hl_cpI, gL_cpI, gR_cpI, gI_cpI, gI_sI, gL_sL, gR_sR, St_sI, St_sL, St_cpI, Nat.reduceEqDiff, Nat.reduceAdd, eq_self, false_and, and_false, true_and, and_true, and_self, if_true, if_false, false_or, or_false, true_or, or_true, not_true_eq_false, not_false_eq_true, reduceIte] using S2, ?_, ?_, fun s hs => ?_, fun k hk => ?_, fun j hj => ?_, fun j hj => ?_, fun j hj => ?_, ?_, ?_, ?_, ?_, ?_, ?_, ?_, (((m1.mono w1).trans (m2.mono w2)).sI (by simp [WSt, wr, wr1])).sI (by simp [WSt, wr, wr1]) |>.sI (by simp [WSt, wr, wr1])⟩
  · have ly : cal 33 [.ref 64] 8 (sI (sI h2 55 2 0) 58 5 0) = some (none, sI (sI (sI h2 55 2 0) 58 5 0) 64 1 0) := by
      have S3 : St (sI (sI h2 55 2 0) 58 5 0) := by simpa only [kd_sI, ln_sI, hl_sI, gL_sI, gR_sI, kd_sL, ln_sL, hl_sL, gI_sL, gR_sL, kd_sR, ln_sR, hl_sR, gI_sR, gL_sR, kd_cpI, ln_cpI, hl_cpI, gL_cpI, gR_cpI, gI_cpI, gI_sI, gL_sL, gR_sR, St_sI, St_sL, St_cpI, Nat.reduceEqDiff, Nat.reduceAdd, eq_self, false_and, and_false, true_and, and_true, and_self, if_true, if_false, false_or, or_false, true_or, or_true, not_true_eq_false, not_false_eq_true, reduceIte] using S2
      rw [C_33 64 8 _ (K_64 S3) (by decide) (by omega)]
      have hS := S3
      simp (disch := first | assumption | exact b2i_01 _ | decide | omega | (simp only [kd_sI, ln_sI, hl_sI, gL_sI, gR_sI, kd_sL, ln_sL, hl_sL, gI_sL, gR_sL, kd_sR, ln_sR, hl_sR, gI_sR, gL_sR, kd_cpI, ln_cpI, hl_cpI, gL_cpI, gR_cpI, gI_cpI, gI_sI, gL_sL, gR_sR, St_sI, St_sL, St_cpI, Nat.reduceEqDiff, Nat.reduceAdd, eq_self, false_and, and_false, true_and, and_true, and_self, if_true, if_false, false_or, or_false, true_or, or_true, not_true_eq_false, not_false_eq_true, reduceIte, K_64, hS, List.length_nil, List.length_cons, Nat.zero_le] <;> first | done | decide | omega | fail) | fail) only [B_33_0, e_aload_n_0, e_iconst_0, P_301, R_33, kd_sI, ln_sI, hl_sI, gL_sI, gR_sI, kd_sL, ln_sL, hl_sL, gI_sL, gR_sL, kd_sR, ln_sR, hl_sR, gI_sR, gL_sR, kd_cpI, ln_cpI, hl_cpI, gL_cpI, gR_cpI, gI_cpI, gI_sI, gL_sL, gR_sR, St_sI, St_sL, St_cpI, Nat.reduceEqDiff, Nat.reduceAdd, eq_self, false_and, and_false, true_and, and_true, and_self, if_true, if_false, false_or, or_false, true_or, or_true, not_true_eq_false, not_false_eq_true, reduceIte, K_64, List.length_nil, List.length_cons, Nat.zero_le]
    rw [C_13 2  μ _ (K_2 hS) (by decide) hμ]
    simp (disch := first | assumption | exact b2i_01 _ | decide | omega | (simp only [kd_sI, ln_sI, hl_sI, gL_sI, gR_sI, kd_sL, ln_sL, hl_sL, gI_sL, gR_sL, kd_sR, ln_sR, hl_sR, gI_sR, gL_sR, kd_cpI, ln_cpI, hl_cpI, gL_cpI, gR_cpI, gI_cpI, gI_sI, gL_sL, gR_sR, St_sI, St_sL, St_cpI, Nat.reduceEqDiff, Nat.reduceAdd, eq_self, false_and, and_false, true_and, and_true, and_self, if_true, if_false, false_or, or_false, true_or, or_true, not_true_eq_false, not_false_eq_true, reduceIte, K_2, F_2_0, F_2_1, F_2_2, F_2_3, F_2_4, F_2_5, F_2_6, K_55, F_55_0, F_55_1, K_58, F_58_0, F_58_1, F_58_2, F_58_3, F_58_4, hS, hl, k1, S1, hl1, k2, S2, ly, List.length_nil, List.length_cons, Nat.zero_le] <;> first | done | decide | omega | fail) | fail) only [B_13_0, e_aload_n_0, G_1102, G_1107, e_call_2, psh_s, psh_n, Option.bind_some, G_1103, G_1104, e_iconst_0, P_1002, G_1105, P_205, G_1106, e_call_1, R_13, kd_sI, ln_sI, hl_sI, gL_sI, gR_sI, kd_sL, ln_sL, hl_sL, gI_sL, gR_sL, kd_sR, ln_sR, hl_sR, gI_sR, gL_sR, kd_cpI, ln_cpI, hl_cpI, gL_cpI, gR_cpI, gI_cpI, gI_sI, gL_sL, gR_sR, St_sI, St_sL, St_cpI, Nat.reduceEqDiff, Nat.reduceAdd, eq_self, false_and, and_false, true_and, and_true, and_self, if_true, if_false, false_or, or_false, true_or, or_true, not_true_eq_false, not_false_eq_true, reduceIte, K_2, F_2_0, F_2_1, F_2_2, F_2_3, F_2_4, F_2_5, F_2_6, K_55, F_55_0, F_55_1, K_58, F_58_0, F_58_1, F_58_2, F_58_3, F_58_4, hl, k1, S1, hl1, k2, S2, ly, List.length_nil, List.length_cons, Nat.zero_le]
  · show gR h2 46 0 = _
    rw [m2.R rfl]; exact a1
  · rw [I3 (by omega) (by omega) (by omega), I2 (by omega) (by omega)]; exact a2
  · rw [I3 (by omega) (by omega) (by omega), I2 (by omega) (by omega)]; exact a3 s hs
  · rw [I3 (by omega) (by omega) (by omega), I2 (by omega) (by omega), I3 (by omega) (by omega) (by omega), I2 (by omega) (by omega)]; exact a4 k hk
  · rw [I3 (by omega) (by omega) (by omega), I2 (by omega) (by omega)]; exact a5 j hj
  · rw [I3 (by omega) (by omega) (by omega), I2 (by omega) (by omega)]; exact a6 j hj
  · unfold rowC
    rw [I3 (by omega) (by omega) (by omega)]; exact b1 j hj
  · exact b2
  · rw [I3 (by omega) (by omega) (by omega)]; exact b3
  · rw [I3 (by omega) (by omega) (by omega)]; exact b4
  · rw [I3 (by omega) (by omega) (by omega)]; exact b5
  · rw [gI_sI, if_neg (by omega), gI_sI, if_neg (by omega), gI_sI, if_pos ⟨rfl, rfl⟩]
  · rw [gI_sI, if_neg (by omega), gI_sI, if_pos ⟨rfl, rfl⟩]
  · rw [gI_sI, if_pos ⟨rfl, rfl⟩]
