/-! a year goes by -/
def yrs (N : Nat → Int32) (y : Int32) : Nat → Nat → Int32
  | 0 => stj N 0 y
  | c + 1 => if yrs N y c (15 + c) = y then (if bit (yrs N y c 2) c = 0 then stj (stj (stj (yrs N y c) (15 + c) (-1)) 2 (yrs N y c 2 ||| one c)) (3 + c) y else stj (yrs N y c) (15 + c) (-1)) else yrs N y c
theorem yrs_0 {N : Nat → Int32} {y : Int32} {c : Nat} (q : ¬ yrs N y c (15 + c) = y) : yrs N y (c + 1) = yrs N y c := if_neg q
theorem yrs_1 {N : Nat → Int32} {y : Int32} {c : Nat} (q : yrs N y c (15 + c) = y) (q2 : bit (yrs N y c 2) c = 0) : yrs N y (c + 1) = stj (stj (stj (yrs N y c) (15 + c) (-1)) 2 (yrs N y c 2 ||| one c)) (3 + c) y := by
  show (if _ then _ else _) = _
  rw [if_pos q, if_pos q2]
theorem yrs_2 {N : Nat → Int32} {y : Int32} {c : Nat} (q : yrs N y c (15 + c) = y) (q2 : ¬ bit (yrs N y c 2) c = 0) : yrs N y (c + 1) = stj (yrs N y c) (15 + c) (-1) := by
  show (if _ then _ else _) = _
  rw [if_pos q, if_neg q2]
theorem yrs_y {N : Nat → Int32} {y : Int32} : ∀ c, yrs N y c 0 = y
  | 0 => stj_s
  | c + 1 => by
    by_cases q : yrs N y c (15 + c) = y
    · by_cases q2 : bit (yrs N y c 2) c = 0
      · rw [yrs_1 q q2, stj_o (by omega), stj_o (by omega), stj_o (by omega)]; exact yrs_y c
      · rw [yrs_2 q q2, stj_o (by omega)]; exact yrs_y c
    · rw [yrs_0 q]; exact yrs_y c
theorem yrs_hi {N : Nat → Int32} {y : Int32} : ∀ c d, c ≤ d → c ≤ 12 → yrs N y c (15 + d) = N (15 + d)
  | 0, d, _, _ => stj_o (by omega)
  | c + 1, d, h, h2 => by
    have ih := yrs_hi (N := N) (y := y) c d (by omega) (by omega)
    by_cases q : yrs N y c (15 + c) = y
    · by_cases q2 : bit (yrs N y c 2) c = 0
      · rw [yrs_1 q q2, stj_o (by omega), stj_o (by omega), stj_o (by omega)]; exact ih
      · rw [yrs_2 q q2, stj_o (by omega)]; exact ih
    · rw [yrs_0 q]; exact ih
theorem yrs_beyond {N : Nat → Int32} {y : Int32} (hy : ¬ y = -1) {n : Nat} : ∀ d, n + d ≤ 12 → (∀ c, n ≤ c → c < 12 → N (15 + c) = -1) → yrs N y (n + d) = yrs N y n
  | 0, _, _ => rfl
  | d + 1, hd, h => by
    rw [show n + (d + 1) = n + d + 1 by omega, yrs_0]
    · exact yrs_beyond hy d (by omega) h
    · rw [yrs_hi (n + d) (n + d) (by omega) (by omega), h (n + d) (by omega) (by omega)]
      exact fun q => hy q.symm
theorem RowOK.suck {L : LD} {N : Nat → Int32} {c : Nat} (h : RowOK L N) (hc : c < dC L) : RowOK L (stj N (15 + c) (-1)) := by
  obtain ⟨⟨n, a1, a2⟩, b, s, d⟩ := h
  exact ⟨⟨n, a1, by rw [stj_o (by omega)]; exact a2⟩, by rw [stj_o (by omega)]; exact b, by rw [stj_o (by omega)]; exact s, fun c' h1 h2 => by rw [stj_o (by omega)]; exact d c' h1 h2⟩
theorem RowOK_yrs {L : LD} (hB : LawB L) {N : Nat → Int32} {y : Nat} (h : RowOK L N) (hy : y ≤ 1000) : ∀ c, c ≤ dC L → RowOK L (yrs N (nI y) c)
  | 0, _ => by
    obtain ⟨⟨n, a1, a2⟩, b, s, d⟩ := h
    exact ⟨⟨n, a1, (stj_o (by omega)).trans a2⟩, ⟨y, hy, stj_s⟩, by obtain ⟨z, z1, z2⟩ := s; exact ⟨z, z1, (stj_o (by omega)).trans z2⟩, fun c' h1 h2 => (stj_o (by omega)).trans (d c' h1 h2)⟩
  | c + 1, hc => by
    have ih := RowOK_yrs hB h hy c (by omega)
    by_cases q : yrs N (nI y) c (15 + c) = nI y
    · by_cases q2 : bit (yrs N (nI y) c 2) c = 0
      · rw [yrs_1 q q2]
        have := (ih.suck (c := c) (by omega)).ins hB (c := c) (v := nI y) (by omega)
        rw [stj_o (show ¬ 2 = 15 + c by omega)] at this
        exact this
      · rw [yrs_2 q q2]; exact ih.suck (by omega)
    · rw [yrs_0 q]; exact ih
theorem lp_Sn_year {h0 : MH} {p u : Nat} {N : Nat → Int32} {y : Int32} (hS0 : St h0) : ∀ m i h, i + m = 12 → CA h0 h p u (yrs N y i) → ∃ h', rn 131 6 B_131_31 [some (.ref 53), some (.int y), some (.int (nI i))] [] h = some (some (.int 1), h') ∧ CA h0 h' p u (yrs N y 12) := by
  have hq : (p + 1) % 41 < 41 := Nat.mod_lt _ (by omega)
  intro m
  induction m with
  | zero =>
    intro i h hi ca
    obtain rfl : i = 12 := by omega
    have hS : St h := ca.1.St hS0 (by decide +kernel)
    refine ⟨h, ?_, ca⟩
    rw [B_131_31]
    simp (disch := first | assumption | exact b2i_01 _ | decide | omega | (simp only [kd_sI, ln_sI, hl_sI, gL_sI, gR_sI, kd_sL, ln_sL, hl_sL, gI_sL, gR_sL, kd_sR, ln_sR, hl_sR, gI_sR, gL_sR, kd_cpI, ln_cpI, hl_cpI, gL_cpI, gR_cpI, gI_cpI, gI_sI, gL_sL, gR_sR, St_sI, St_sL, St_cpI, Nat.reduceEqDiff, Nat.reduceAdd, eq_self, false_and, and_false, true_and, and_true, and_self, if_true, if_false, false_or, or_false, true_or, or_true, not_true_eq_false, not_false_eq_true, reduceIte, K_53, F_53_1, hS, (eq_true (by simp (disch := omega) only [nI_lit, nI_add, lt_nI, le_nI, eq_nI] <;> omega) : ((12 : Int32) ≤ nI 12) = True)] <;> first | done | decide | omega | fail) | fail) only [B_131_0, e_aload_n_0, e_call_1, psh_s, psh_n, Option.bind_some, e_sipush_1000, e_ic_lt, e_iconst_0, R_131, eq_self, true_or, or_true, b2i_or, T_131_12, B_131_12, e_iconst_1, e_iadd, e_istore_n_1, clr_i, clr_l, clr_a, clr_n, e_iload_n_1, e_call_3, e_istore_n_2, e_gotow, T_131_31, e_iload_n_2, e_bipush_12, e_ic_ge, e_bipush_15, e_call_2, e_ic_ne, e_iconst_m1, e_ishr, e_iand, e_if_ne, T_131_75, B_131_75, e_iinc_2_1, e_goto, T_131_81, B_131_81, kd_sI, ln_sI, hl_sI, gL_sI, gR_sI, kd_sL, ln_sL, hl_sL, gI_sL, gR_sL, kd_sR, ln_sR, hl_sR, gI_sR, gL_sR, kd_cpI, ln_cpI, hl_cpI, gL_cpI, gR_cpI, gI_cpI, gI_sI, gL_sL, gR_sR, St_sI, St_sL, St_cpI, Nat.reduceEqDiff, Nat.reduceAdd, eq_self, false_and, and_false, true_and, and_true, and_self, if_true, if_false, false_or, or_false, true_or, or_true, not_true_eq_false, not_false_eq_true, reduceIte, K_53, F_53_1, (eq_true (by simp (disch := omega) only [nI_lit, nI_add, lt_nI, le_nI, eq_nI] <;> omega) : ((12 : Int32) ≤ nI 12) = True)]
  | succ m ih =>
    intro i h hi ca
    have hS : St h := ca.1.St hS0 (by decide +kernel)
    have e1 := s_Sn_read (μ := 6) (j := 15 + i) hS ca.2.1 (by omega) (by omega) (by omega)
    have e2 : (15 : Int32) + nI i = nI (15 + i) := by rw [show (15 : Int32) = nI 15 from rfl, nI_add]
    have v : gI h 54 ((p + 1) % 41 * 27 + (15 + i)) = yrs N y i (15 + i) := ca.row (15 + i) (by omega)
    rw [v] at e1
    rw [B_131_31]
    by_cases c : yrs N y i (15 + i) = y
    · have e3 := s_Sn_write (μ := 6) (j := 15 + i) (v := -1) hS ca.2.1 (by omega) (by omega) (by omega)
      have r1 := (CR.rf h).write (v := -1) (show (p + 1) % 41 < 44 by omega) (show 15 + i < 27 by omega)
      obtain ⟨h1, eh1⟩ : ∃ h1, h1 = sI h 54 ((p + 1) % 41 * 27 + (15 + i)) (-1) := ⟨_, rfl⟩
      rw [← eh1] at e3 r1
      have ca1 : CA h0 h1 p u (stj (yrs N y i) (15 + i) (-1)) := ca.step r1 (ca.row.stj rfl)
      have hS1 : St h1 := ca1.1.St hS0 (by decide +kernel)
      have e4 := s_Sn_inNow (μ := 6) hS1 ca1.2.1 (by omega) (by omega)
      have v2 : gI h1 54 ((p + 1) % 41 * 27 + 2) = yrs N y i 2 := (ca1.row 2 (by omega)).trans (stj_o (by omega))
      rw [v2] at e4
      by_cases c2 : bit (yrs N y i 2) i = 0
      · obtain ⟨h2, f2, cr2⟩ := s_Sn_letIn (μ := 6) (c := i) (v := y) hS1 (CR.rf h1) ca1.2.1 (by omega) (show i < 12 by omega) (by omega)
        have ca2 : CA h0 h2 p u (yrs N y (i + 1)) := by
          rw [yrs_1 c c2]
          refine ca1.step cr2 ((ca1.row.stj ?_).stj rfl)
          show gI h1 54 ((p + 1) % 41 * 27 + 2) ||| one i = _
          rw [v2]
        have hS2 : St h2 := ca2.1.St hS0 (by decide +kernel)
        obtain ⟨h', g, q⟩ := ih (i + 1) h2 (by omega) ca2
        refine ⟨h', ?_, q⟩
        unfold bit at c2
        rw [c] at e1
        simp (disch := first | assumption | exact b2i_01 _ | decide | omega | (simp only [kd_sI, ln_sI, hl_sI, gL_sI, gR_sI, kd_sL, ln_sL, hl_sL, gI_sL, gR_sL, kd_sR, ln_sR, hl_sR, gI_sR, gL_sR, kd_cpI, ln_cpI, hl_cpI, gL_cpI, gR_cpI, gI_cpI, gI_sI, gL_sL, gR_sR, St_sI, St_sL, St_cpI, Nat.reduceEqDiff, Nat.reduceAdd, eq_self, false_and, and_false, true_and, and_true, and_self, if_true, if_false, false_or, or_false, true_or, or_true, not_true_eq_false, not_false_eq_true, reduceIte, K_53, F_53_1, hS, hS1, hS2, (eq_false (by simp (disch := omega) only [nI_lit, nI_add, lt_nI, le_nI, eq_nI] <;> omega) : ((12 : Int32) ≤ nI i) = False), e1, e2, e3, e4, c2, f2, g, nI_1, List.length_nil, List.length_cons, Nat.zero_le] <;> first | done | decide | omega | fail) | fail) only [B_131_0, e_aload_n_0, e_call_1, psh_s, psh_n, Option.bind_some, e_sipush_1000, e_ic_lt, e_iconst_0, R_131, eq_self, true_or, or_true, b2i_or, T_131_12, B_131_12, e_iconst_1, e_iadd, e_istore_n_1, clr_i, clr_l, clr_a, clr_n, e_iload_n_1, e_call_3, e_istore_n_2, e_gotow, T_131_31, e_iload_n_2, e_bipush_12, e_ic_ge, e_bipush_15, e_call_2, e_ic_ne, e_iconst_m1, e_ishr, e_iand, e_if_ne, T_131_75, B_131_75, e_iinc_2_1, e_goto, T_131_81, B_131_81, kd_sI, ln_sI, hl_sI, gL_sI, gR_sI, kd_sL, ln_sL, hl_sL, gI_sL, gR_sL, kd_sR, ln_sR, hl_sR, gI_sR, gL_sR, kd_cpI, ln_cpI, hl_cpI, gL_cpI, gR_cpI, gI_cpI, gI_sI, gL_sL, gR_sR, St_sI, St_sL, St_cpI, Nat.reduceEqDiff, Nat.reduceAdd, eq_self, false_and, and_false, true_and, and_true, and_self, if_true, if_false, false_or, or_false, true_or, or_true, not_true_eq_false, not_false_eq_true, reduceIte, K_53, F_53_1, hS1, hS2, (eq_false (by simp (disch := omega) only [nI_lit, nI_add, lt_nI, le_nI, eq_nI] <;> omega) : ((12 : Int32) ≤ nI i) = False), e1, e2, e3, e4, c2, f2, g, nI_1, List.length_nil, List.length_cons, Nat.zero_le]
      · rw [← yrs_2 c c2] at ca1
        obtain ⟨h', g, q⟩ := ih (i + 1) h1 (by omega) ca1
        refine ⟨h', ?_, q⟩
        unfold bit at c2
        rw [c] at e1
        simp (disch := first | assumption | exact b2i_01 _ | decide | omega | (simp only [kd_sI, ln_sI, hl_sI, gL_sI, gR_sI, kd_sL, ln_sL, hl_sL, gI_sL, gR_sL, kd_sR, ln_sR, hl_sR, gI_sR, gL_sR, kd_cpI, ln_cpI, hl_cpI, gL_cpI, gR_cpI, gI_cpI, gI_sI, gL_sL, gR_sR, St_sI, St_sL, St_cpI, Nat.reduceEqDiff, Nat.reduceAdd, eq_self, false_and, and_false, true_and, and_true, and_self, if_true, if_false, false_or, or_false, true_or, or_true, not_true_eq_false, not_false_eq_true, reduceIte, K_53, F_53_1, hS, hS1, (eq_false (by simp (disch := omega) only [nI_lit, nI_add, lt_nI, le_nI, eq_nI] <;> omega) : ((12 : Int32) ≤ nI i) = False), e1, e2, e3, e4, c2, g, nI_1, List.length_nil, List.length_cons, Nat.zero_le] <;> first | done | decide | omega | fail) | fail) only [B_131_0, e_aload_n_0, e_call_1, psh_s, psh_n, Option.bind_some, e_sipush_1000, e_ic_lt, e_iconst_0, R_131, eq_self, true_or, or_true, b2i_or, T_131_12, B_131_12, e_iconst_1, e_iadd, e_istore_n_1, clr_i, clr_l, clr_a, clr_n, e_iload_n_1, e_call_3, e_istore_n_2, e_gotow, T_131_31, e_iload_n_2, e_bipush_12, e_ic_ge, e_bipush_15, e_call_2, e_ic_ne, e_iconst_m1, e_ishr, e_iand, e_if_ne, T_131_75, B_131_75, e_iinc_2_1, e_goto, T_131_81, B_131_81, kd_sI, ln_sI, hl_sI, gL_sI, gR_sI, kd_sL, ln_sL, hl_sL, gI_sL, gR_sL, kd_sR, ln_sR, hl_sR, gI_sR, gL_sR, kd_cpI, ln_cpI, hl_cpI, gL_cpI, gR_cpI, gI_cpI, gI_sI, gL_sL, gR_sR, St_sI, St_sL, St_cpI, Nat.reduceEqDiff, Nat.reduceAdd, eq_self, false_and, and_false, true_and, and_true, and_self, if_true, if_false, false_or, or_false, true_or, or_true, not_true_eq_false, not_false_eq_true, reduceIte, K_53, F_53_1, hS1, (eq_false (by simp (disch := omega) only [nI_lit, nI_add, lt_nI, le_nI, eq_nI] <;> omega) : ((12 : Int32) ≤ nI i) = False), e1, e2, e3, e4, c2, g, nI_1, List.length_nil, List.length_cons, Nat.zero_le]
    · rw [← yrs_0 c] at ca
      obtain ⟨h', g, q⟩ := ih (i + 1) h (by omega) ca
      refine ⟨h', ?_, q⟩
      simp (disch := first | assumption | exact b2i_01 _ | decide | omega | (simp only [kd_sI, ln_sI, hl_sI, gL_sI, gR_sI, kd_sL, ln_sL, hl_sL, gI_sL, gR_sL, kd_sR, ln_sR, hl_sR, gI_sR, gL_sR, kd_cpI, ln_cpI, hl_cpI, gL_cpI, gR_cpI, gI_cpI, gI_sI, gL_sL, gR_sR, St_sI, St_sL, St_cpI, Nat.reduceEqDiff, Nat.reduceAdd, eq_self, false_and, and_false, true_and, and_true, and_self, if_true, if_false, false_or, or_false, true_or, or_true, not_true_eq_false, not_false_eq_true, reduceIte, K_53, F_53_1, hS, (eq_false (by simp (disch := omega) only [nI_lit, nI_add, lt_nI, le_nI, eq_nI] <;> omega) : ((12 : Int32) ≤ nI i) = False), e1, e2, c, g, nI_1, List.length_nil, List.length_cons, Nat.zero_le] <;> first | done | decide | omega | fail) | fail) only [B_131_0, e_aload_n_0, e_call_1, psh_s, psh_n, Option.bind_some, e_sipush_1000, e_ic_lt, e_iconst_0, R_131, eq_self, true_or, or_true, b2i_or, T_131_12, B_131_12, e_iconst_1, e_iadd, e_istore_n_1, clr_i, clr_l, clr_a, clr_n, e_iload_n_1, e_call_3, e_istore_n_2, e_gotow, T_131_31, e_iload_n_2, e_bipush_12, e_ic_ge, e_bipush_15, e_call_2, e_ic_ne, e_iconst_m1, e_ishr, e_iand, e_if_ne, T_131_75, B_131_75, e_iinc_2_1, e_goto, T_131_81, B_131_81, kd_sI, ln_sI, hl_sI, gL_sI, gR_sI, kd_sL, ln_sL, hl_sL, gI_sL, gR_sL, kd_sR, ln_sR, hl_sR, gI_sR, gL_sR, kd_cpI, ln_cpI, hl_cpI, gL_cpI, gR_cpI, gI_cpI, gI_sI, gL_sL, gR_sR, St_sI, St_sL, St_cpI, Nat.reduceEqDiff, Nat.reduceAdd, eq_self, false_and, and_false, true_and, and_true, and_self, if_true, if_false, false_or, or_false, true_or, or_true, not_true_eq_false, not_false_eq_true, reduceIte, K_53, F_53_1, (eq_false (by simp (disch := omega) only [nI_lit, nI_add, lt_nI, le_nI, eq_nI] <;> omega) : ((12 : Int32) ≤ nI i) = False), e1, e2, c, g, nI_1, List.length_nil, List.length_cons, Nat.zero_le]
theorem lp_Mo_year {h0 : MH} {u C : Nat} {N : Nat → Int32} {y : Int32} (hS0 : St h0) (hC : gI h0 66 52 = nI C) (hC2 : C ≤ 12) : ∀ m i h, i + m = C → MA h0 h u (yrs N y i) → ∃ h', rn 280 4 B_280_30 [some (.ref 66), some (.int (nI i))] [] h = some (some (.int y), h') ∧ MA h0 h' u (yrs N y C) := by
  intro m
  induction m with
  | zero =>
    intro i h hi ma
    obtain rfl : i = C := by omega
    have hS : St h := ma.1.St hS0 (by decide +kernel)
    have hC' : gI h 66 52 = nI i := by rw [ma.1.I rfl]; exact hC
    have i0 : inBd (0 : Int32) 32 = true := by decide
    have k0 : (0 : Int32).toNatClampNeg = 0 := by decide
    have v : gI h 94 0 = y := (ma.2.2.2.1 0 (by omega)).trans (yrs_y i)
    refine ⟨h, ?_, ma⟩
    rw [B_280_30]
    simp (disch := first | assumption | exact b2i_01 _ | decide | omega | (simp only [kd_sI, ln_sI, hl_sI, gL_sI, gR_sI, kd_sL, ln_sL, hl_sL, gI_sL, gR_sL, kd_sR, ln_sR, hl_sR, gI_sR, gL_sR, kd_cpI, ln_cpI, hl_cpI, gL_cpI, gR_cpI, gI_cpI, gI_sI, gL_sL, gR_sR, St_sI, St_sL, St_cpI, Nat.reduceEqDiff, Nat.reduceAdd, eq_self, false_and, and_false, true_and, and_true, and_self, if_true, if_false, false_or, or_false, true_or, or_true, not_true_eq_false, not_false_eq_true, reduceIte, K_66, F_66_0, F_66_10, F_66_11, F_66_12, F_66_13, F_66_14, F_66_15, F_66_16, F_66_17, F_66_18, F_66_25, F_66_26, F_66_27, F_66_28, F_66_29, F_66_30, F_66_31, F_66_32, F_66_33, F_66_34, F_66_35, F_66_36, F_66_37, F_66_38, F_66_39, F_66_60, F_66_61, F_66_62, F_66_63, F_66_66, F_66_68, F_66_69, F_66_71, F_66_72, F_66_73, F_66_74, F_66_77, F_66_78, F_66_79, F_66_80, F_66_81, F_66_84, F_66_85, F_66_86, F_66_87, K_94, N_94, hS, hC', i0, k0, v, (eq_true (by simp (disch := omega) only [nI_lit, nI_add, lt_nI, le_nI, eq_nI] <;> omega) : (nI i ≤ nI i) = True)] <;> first | done | decide | omega | fail) | fail) only [B_280_0, e_aload_n_0, G_1262, e_iconst_0, e_iaload, e_sipush_1000, e_ic_ne, e_iconst_m1, R_280, T_280_14, B_280_14, e_call_1, psh_s, psh_n, Option.bind_some, e_dup2, e_iconst_1, e_iadd, e_iastore, e_istore_n_1, clr_i, clr_l, clr_a, clr_n, e_gotow, T_280_30, e_iload_n_1, G_1252, e_ic_ge, e_bipush_15, e_ic_eq, e_goto, T_280_59, B_280_59, e_call_2, e_if_eq, T_280_80, B_280_80, e_iconst_2, e_ishl, e_ior, e_iconst_3, T_280_106, B_280_106, e_iinc_1_1, T_280_112, B_280_112, kd_sI, ln_sI, hl_sI, gL_sI, gR_sI, kd_sL, ln_sL, hl_sL, gI_sL, gR_sL, kd_sR, ln_sR, hl_sR, gI_sR, gL_sR, kd_cpI, ln_cpI, hl_cpI, gL_cpI, gR_cpI, gI_cpI, gI_sI, gL_sL, gR_sR, St_sI, St_sL, St_cpI, Nat.reduceEqDiff, Nat.reduceAdd, eq_self, false_and, and_false, true_and, and_true, and_self, if_true, if_false, false_or, or_false, true_or, or_true, not_true_eq_false, not_false_eq_true, reduceIte, K_66, F_66_0, F_66_10, F_66_11, F_66_12, F_66_13, F_66_14, F_66_15, F_66_16, F_66_17, F_66_18, F_66_25, F_66_26, F_66_27, F_66_28, F_66_29, F_66_30, F_66_31, F_66_32, F_66_33, F_66_34, F_66_35, F_66_36, F_66_37, F_66_38, F_66_39, F_66_60, F_66_61, F_66_62, F_66_63, F_66_66, F_66_68, F_66_69, F_66_71, F_66_72, F_66_73, F_66_74, F_66_77, F_66_78, F_66_79, F_66_80, F_66_81, F_66_84, F_66_85, F_66_86, F_66_87, K_94, N_94, hC', i0, k0, v, (eq_true (by simp (disch := omega) only [nI_lit, nI_add, lt_nI, le_nI, eq_nI] <;> omega) : (nI i ≤ nI i) = True)]
  | succ m ih =>
    intro i h hi ma
    have hS : St h := ma.1.St hS0 (by decide +kernel)
    have hC' : gI h 66 52 = nI C := by rw [ma.1.I rfl]; exact hC
    have i0 : inBd (0 : Int32) 32 = true := by decide
    have k0 : (0 : Int32).toNatClampNeg = 0 := by decide
    have i2 : inBd (2 : Int32) 32 = true := by decide
    have k2 : (2 : Int32).toNatClampNeg = 2 := by decide
    have v : gI h 94 0 = y := (ma.2.2.2.1 0 (by omega)).trans (yrs_y i)
    have v1 : gI h 94 (15 + i) = yrs N y i (15 + i) := ma.2.2.2.1 (15 + i) (by omega)
    have v2 : gI h 94 2 = yrs N y i 2 := ma.2.2.2.1 2 (by omega)
    have e2 : (15 : Int32) + nI i = nI (15 + i) := by rw [show (15 : Int32) = nI 15 from rfl, nI_add]
    have e3 : (3 : Int32) + nI i = nI (3 + i) := by rw [show (3 : Int32) = nI 3 from rfl, nI_add]
    have b1 : inBd (nI (15 + i)) 32 = true := inBd_nI (by omega) (by omega)
    have t1 := tc_nI (show 15 + i < 2147483648 by omega)
    have b3 : inBd (nI (3 + i)) 32 = true := inBd_nI (by omega) (by omega)
    have t3 := tc_nI (show 3 + i < 2147483648 by omega)
    have e10 : ((1 : Int32) = 0) = False := by simp
    rw [B_280_30]
    by_cases c : yrs N y i (15 + i) = y
    · have ma1 := ma.step (j := 15 + i) (v := -1)
      obtain ⟨h1, eh1⟩ : ∃ h1, h1 = sI h 94 (15 + i) (-1) := ⟨_, rfl⟩
      rw [← eh1] at ma1
      have hS1 : St h1 := ma1.1.St hS0 (by decide +kernel)
      have f1 := s_Mo_isInside (μ := 4) (c := i) hS1 (by omega) (by omega)
      have w2 : rowM h1 2 = yrs N y i 2 := (ma1.2.2.2.1 2 (by omega)).trans (stj_o (by omega))
      rw [w2] at f1
      rw [c] at v1
      by_cases c2 : bit (yrs N y i 2) i = 0
      · have ma2 := (ma1.step (j := 2) (v := yrs N y i 2 ||| one i)).step (j := 3 + i) (v := y)
        rw [← yrs_1 c c2] at ma2
        obtain ⟨h', g, q⟩ := ih (i + 1) _ (by omega) ma2
        refine ⟨h', ?_, q⟩
        have d : decide (¬ bit (yrs N y i 2) i = 0) = false := decide_eq_false (fun z => z c2)
        rw [d] at f1
        rw [eh1] at f1 g
        unfold one at g
        have n1 : (2 = 15 + i) = False := eq_false (by omega)
        have n2 : (0 = 15 + i) = False := eq_false (by omega)
        have n3 : (0 = 2) = False := eq_false (by omega)
        simp (disch := first | assumption | exact b2i_01 _ | decide | omega | (simp only [kd_sI, ln_sI, hl_sI, gL_sI, gR_sI, kd_sL, ln_sL, hl_sL, gI_sL, gR_sL, kd_sR, ln_sR, hl_sR, gI_sR, gL_sR, kd_cpI, ln_cpI, hl_cpI, gL_cpI, gR_cpI, gI_cpI, gI_sI, gL_sL, gR_sR, St_sI, St_sL, St_cpI, Nat.reduceEqDiff, Nat.reduceAdd, eq_self, false_and, and_false, true_and, and_true, and_self, if_true, if_false, false_or, or_false, true_or, or_true, not_true_eq_false, not_false_eq_true, reduceIte, K_66, F_66_0, F_66_10, F_66_11, F_66_12, F_66_13, F_66_14, F_66_15, F_66_16, F_66_17, F_66_18, F_66_25, F_66_26, F_66_27, F_66_28, F_66_29, F_66_30, F_66_31, F_66_32, F_66_33, F_66_34, F_66_35, F_66_36, F_66_37, F_66_38, F_66_39, F_66_60, F_66_61, F_66_62, F_66_63, F_66_66, F_66_68, F_66_69, F_66_71, F_66_72, F_66_73, F_66_74, F_66_77, F_66_78, F_66_79, F_66_80, F_66_81, F_66_84, F_66_85, F_66_86, F_66_87, K_94, N_94, hS, hC', i0, k0, i2, k2, v, v1, v2, e2, e3, b1, t1, b3, t3, (eq_false (by simp (disch := omega) only [nI_lit, nI_add, lt_nI, le_nI, eq_nI] <;> omega) : (nI C ≤ nI i) = False), f1, n1, n2, n3, g, nI_1, b2i_f, b2i_t, e10, decide_true, decide_false, List.length_nil, List.length_cons, Nat.zero_le] <;> first | done | decide | omega | fail) | fail) only [B_280_0, e_aload_n_0, G_1262, e_iconst_0, e_iaload, e_sipush_1000, e_ic_ne, e_iconst_m1, R_280, T_280_14, B_280_14, e_call_1, psh_s, psh_n, Option.bind_some, e_dup2, e_iconst_1, e_iadd, e_iastore, e_istore_n_1, clr_i, clr_l, clr_a, clr_n, e_gotow, T_280_30, e_iload_n_1, G_1252, e_ic_ge, e_bipush_15, e_ic_eq, e_goto, T_280_59, B_280_59, e_call_2, e_if_eq, T_280_80, B_280_80, e_iconst_2, e_ishl, e_ior, e_iconst_3, T_280_106, B_280_106, e_iinc_1_1, T_280_112, B_280_112, kd_sI, ln_sI, hl_sI, gL_sI, gR_sI, kd_sL, ln_sL, hl_sL, gI_sL, gR_sL, kd_sR, ln_sR, hl_sR, gI_sR, gL_sR, kd_cpI, ln_cpI, hl_cpI, gL_cpI, gR_cpI, gI_cpI, gI_sI, gL_sL, gR_sR, St_sI, St_sL, St_cpI, Nat.reduceEqDiff, Nat.reduceAdd, eq_self, false_and, and_false, true_and, and_true, and_self, if_true, if_false, false_or, or_false, true_or, or_true, not_true_eq_false, not_false_eq_true, reduceIte, K_66, F_66_0, F_66_10, F_66_11, F_66_12, F_66_13, F_66_14, F_66_15, F_66_16, F_66_17, F_66_18, F_66_25, F_66_26, F_66_27, F_66_28, F_66_29, F_66_30, F_66_31, F_66_32, F_66_33, F_66_34, F_66_35, F_66_36, F_66_37, F_66_38, F_66_39, F_66_60, F_66_61, F_66_62, F_66_63, F_66_66, F_66_68, F_66_69, F_66_71, F_66_72, F_66_73, F_66_74, F_66_77, F_66_78, F_66_79, F_66_80, F_66_81, F_66_84, F_66_85, F_66_86, F_66_87, K_94, N_94, hC', i0, k0, i2, k2, v, v1, v2, e2, e3, b1, t1, b3, t3, (eq_false (by simp (disch := omega) only [nI_lit, nI_add, lt_nI, le_nI, eq_nI] <;> omega) : (nI C ≤ nI i) = False), f1, n1, n2, n3, g, nI_1, b2i_f, b2i_t, e10, decide_true, decide_false, List.length_nil, List.length_cons, Nat.zero_le]
      · rw [← yrs_2 c c2] at ma1
        obtain ⟨h', g, q⟩ := ih (i + 1) _ (by omega) ma1
        refine ⟨h', ?_, q⟩
        have d : decide (¬ bit (yrs N y i 2) i = 0) = true := decide_eq_true c2
        rw [d] at f1
        rw [eh1] at f1 g
        simp (disch := first | assumption | exact b2i_01 _ | decide | omega | (simp only [kd_sI, ln_sI, hl_sI, gL_sI, gR_sI, kd_sL, ln_sL, hl_sL, gI_sL, gR_sL, kd_sR, ln_sR, hl_sR, gI_sR, gL_sR, kd_cpI, ln_cpI, hl_cpI, gL_cpI, gR_cpI, gI_cpI, gI_sI, gL_sL, gR_sR, St_sI, St_sL, St_cpI, Nat.reduceEqDiff, Nat.reduceAdd, eq_self, false_and, and_false, true_and, and_true, and_self, if_true, if_false, false_or, or_false, true_or, or_true, not_true_eq_false, not_false_eq_true, reduceIte, K_66, F_66_0, F_66_10, F_66_11, F_66_12, F_66_13, F_66_14, F_66_15, F_66_16, F_66_17, F_66_18, F_66_25, F_66_26, F_66_27, F_66_28, F_66_29, F_66_30, F_66_31, F_66_32, F_66_33, F_66_34, F_66_35, F_66_36, F_66_37, F_66_38, F_66_39, F_66_60, F_66_61, F_66_62, F_66_63, F_66_66, F_66_68, F_66_69, F_66_71, F_66_72, F_66_73, F_66_74, F_66_77, F_66_78, F_66_79, F_66_80, F_66_81, F_66_84, F_66_85, F_66_86, F_66_87, K_94, N_94, hS, hC', i0, k0, v, v1, e2, b1, t1, (eq_false (by simp (disch := omega) only [nI_lit, nI_add, lt_nI, le_nI, eq_nI] <;> omega) : (nI C ≤ nI i) = False), f1, g, nI_1, b2i_f, b2i_t, e10, decide_true, decide_false, List.length_nil, List.length_cons, Nat.zero_le] <;> first | done | decide | omega | fail) | fail) only [B_280_0, e_aload_n_0, G_1262, e_iconst_0, e_iaload, e_sipush_1000, e_ic_ne, e_iconst_m1, R_280, T_280_14, B_280_14, e_call_1, psh_s, psh_n, Option.bind_some, e_dup2, e_iconst_1, e_iadd, e_iastore, e_istore_n_1, clr_i, clr_l, clr_a, clr_n, e_gotow, T_280_30, e_iload_n_1, G_1252, e_ic_ge, e_bipush_15, e_ic_eq, e_goto, T_280_59, B_280_59, e_call_2, e_if_eq, T_280_80, B_280_80, e_iconst_2, e_ishl, e_ior, e_iconst_3, T_280_106, B_280_106, e_iinc_1_1, T_280_112, B_280_112, kd_sI, ln_sI, hl_sI, gL_sI, gR_sI, kd_sL, ln_sL, hl_sL, gI_sL, gR_sL, kd_sR, ln_sR, hl_sR, gI_sR, gL_sR, kd_cpI, ln_cpI, hl_cpI, gL_cpI, gR_cpI, gI_cpI, gI_sI, gL_sL, gR_sR, St_sI, St_sL, St_cpI, Nat.reduceEqDiff, Nat.reduceAdd, eq_self, false_and, and_false, true_and, and_true, and_self, if_true, if_false, false_or, or_false, true_or, or_true, not_true_eq_false, not_false_eq_true, reduceIte, K_66, F_66_0, F_66_10, F_66_11, F_66_12, F_66_13, F_66_14, F_66_15, F_66_16, F_66_17, F_66_18, F_66_25, F_66_26, F_66_27, F_66_28, F_66_29, F_66_30, F_66_31, F_66_32, F_66_33, F_66_34, F_66_35, F_66_36, F_66_37, F_66_38, F_66_39, F_66_60, F_66_61, F_66_62, F_66_63, F_66_66, F_66_68, F_66_69, F_66_71, F_66_72, F_66_73, F_66_74, F_66_77, F_66_78, F_66_79, F_66_80, F_66_81, F_66_84, F_66_85, F_66_86, F_66_87, K_94, N_94, hC', i0, k0, v, v1, e2, b1, t1, (eq_false (by simp (disch := omega) only [nI_lit, nI_add, lt_nI, le_nI, eq_nI] <;> omega) : (nI C ≤ nI i) = False), f1, g, nI_1, b2i_f, b2i_t, e10, decide_true, decide_false, List.length_nil, List.length_cons, Nat.zero_le]
    · rw [← yrs_0 c] at ma
      obtain ⟨h', g, q⟩ := ih (i + 1) h (by omega) ma
      refine ⟨h', ?_, q⟩
      simp (disch := first | assumption | exact b2i_01 _ | decide | omega | (simp only [kd_sI, ln_sI, hl_sI, gL_sI, gR_sI, kd_sL, ln_sL, hl_sL, gI_sL, gR_sL, kd_sR, ln_sR, hl_sR, gI_sR, gL_sR, kd_cpI, ln_cpI, hl_cpI, gL_cpI, gR_cpI, gI_cpI, gI_sI, gL_sL, gR_sR, St_sI, St_sL, St_cpI, Nat.reduceEqDiff, Nat.reduceAdd, eq_self, false_and, and_false, true_and, and_true, and_self, if_true, if_false, false_or, or_false, true_or, or_true, not_true_eq_false, not_false_eq_true, reduceIte, K_66, F_66_0, F_66_10, F_66_11, F_66_12, F_66_13, F_66_14, F_66_15, F_66_16, F_66_17, F_66_18, F_66_25, F_66_26, F_66_27, F_66_28, F_66_29, F_66_30, F_66_31, F_66_32, F_66_33, F_66_34, F_66_35, F_66_36, F_66_37, F_66_38, F_66_39, F_66_60, F_66_61, F_66_62, F_66_63, F_66_66, F_66_68, F_66_69, F_66_71, F_66_72, F_66_73, F_66_74, F_66_77, F_66_78, F_66_79, F_66_80, F_66_81, F_66_84, F_66_85, F_66_86, F_66_87, K_94, N_94, hS, hC', i0, k0, v, v1, e2, b1, t1, (eq_false (by simp (disch := omega) only [nI_lit, nI_add, lt_nI, le_nI, eq_nI] <;> omega) : (nI C ≤ nI i) = False), c, g, nI_1, b2i_f, b2i_t, e10, decide_true, decide_false, List.length_nil, List.length_cons, Nat.zero_le] <;> first | done | decide | omega | fail) | fail) only [B_280_0, e_aload_n_0, G_1262, e_iconst_0, e_iaload, e_sipush_1000, e_ic_ne, e_iconst_m1, R_280, T_280_14, B_280_14, e_call_1, psh_s, psh_n, Option.bind_some, e_dup2, e_iconst_1, e_iadd, e_iastore, e_istore_n_1, clr_i, clr_l, clr_a, clr_n, e_gotow, T_280_30, e_iload_n_1, G_1252, e_ic_ge, e_bipush_15, e_ic_eq, e_goto, T_280_59, B_280_59, e_call_2, e_if_eq, T_280_80, B_280_80, e_iconst_2, e_ishl, e_ior, e_iconst_3, T_280_106, B_280_106, e_iinc_1_1, T_280_112, B_280_112, kd_sI, ln_sI, hl_sI, gL_sI, gR_sI, kd_sL, ln_sL, hl_sL, gI_sL, gR_sL, kd_sR, ln_sR, hl_sR, gI_sR, gL_sR, kd_cpI, ln_cpI, hl_cpI, gL_cpI, gR_cpI, gI_cpI, gI_sI, gL_sL, gR_sR, St_sI, St_sL, St_cpI, Nat.reduceEqDiff, Nat.reduceAdd, eq_self, false_and, and_false, true_and, and_true, and_self, if_true, if_false, false_or, or_false, true_or, or_true, not_true_eq_false, not_false_eq_true, reduceIte, K_66, F_66_0, F_66_10, F_66_11, F_66_12, F_66_13, F_66_14, F_66_15, F_66_16, F_66_17, F_66_18, F_66_25, F_66_26, F_66_27, F_66_28, F_66_29, F_66_30, F_66_31, F_66_32, F_66_33, F_66_34, F_66_35, F_66_36, F_66_37, F_66_38, F_66_39, F_66_60, F_66_61, F_66_62, F_66_63, F_66_66, F_66_68, F_66_69, F_66_71, F_66_72, F_66_73, F_66_74, F_66_77, F_66_78, F_66_79, F_66_80, F_66_81, F_66_84, F_66_85, F_66_86, F_66_87, K_94, N_94, hC', i0, k0, v, v1, e2, b1, t1, (eq_false (by simp (disch := omega) only [nI_lit, nI_add, lt_nI, le_nI, eq_nI] <;> omega) : (nI C ≤ nI i) = False), c, g, nI_1, b2i_f, b2i_t, e10, decide_true, decide_false, List.length_nil, List.length_cons, Nat.zero_le]
theorem p_year {o p : Nat} {L : LD} {h : MH} (hI : INV o p L h) {μ : Nat} (hμ : 7 < μ) : ∃ p' h1 h2 v, cal 130 [.ref 2] μ h = some (some (.int v), h1) ∧ cal 280 [.ref 66] μ h1 = some (some (.int v), h2) ∧ INV o p' L h2 := by
  have hI0 := hI
  obtain ⟨u, r, ur, hAR, u1, u2, u3, u4⟩ := hI0.pc
  have hI := hI0.1
  have hS := hI.1.1; have hB := hI.1.2.1; have hC := hI.1.2.2.1; have hM := hI.2.1; have hs := hI.2.2; have ho := hC.1.1; have hl := hC.1.2.1; have hl2 := hC.1.2.2.1; have hl3 := hC.1.2.2.2; have cT := hC.2.1.1; have cR := hC.2.1.2.1; have cC := hC.2.1.2.2.1; have cN := hC.2.1.2.2.2; have mT := hM.1.1; have mR := hM.1.2.1; have mC := hM.1.2.2.1; have mN := hM.1.2.2.2; have hb := hB.1; have e10 : ((1 : Int32) = 0) = False := by simp
  have hμ4 : 4 < μ := by omega
  have hp44 : p < 44 := by have := hs.2.1; omega
  have hq : (p + 1) % 41 < 41 := Nat.mod_lt _ (by omega)
  obtain ⟨yy, y1, y2⟩ := hs.2.2.2.2.1
  have y2' : gI h 94 0 = nI yy := y2
  have e1 := s_Sn_yearNow (μ := 6) hS hs.1 hp44 (by omega)
  have ry : gI h 54 (p * 27 + 0) = nI yy := (hs.2.2.1 0 (by omega)).trans y2
  rw [ry] at e1
  have i0 : inBd (0 : Int32) 32 = true := by decide
  have k0 : (0 : Int32).toNatClampNeg = 0 := by decide
  by_cases c : yy = 1000
  · subst c
    have l1 : (nI 1000 < 1000) = False := by decide
    have l2 : (nI 1000 = 1000) = True := eq_true rfl
    refine ⟨p, h, h, -1, ?_, ?_, hI0⟩
    · have e : cal 131 [.ref 53] 7 h = some (some (.int 0), h) := by
        have hμ : 6 < 7 := by omega
        rw [C_131 53 7 h (K_53 hS) (by decide) hμ]
        simp (disch := first | assumption | exact b2i_01 _ | decide | omega | (simp only [kd_sI, ln_sI, hl_sI, gL_sI, gR_sI, kd_sL, ln_sL, hl_sL, gI_sL, gR_sL, kd_sR, ln_sR, hl_sR, gI_sR, gL_sR, kd_cpI, ln_cpI, hl_cpI, gL_cpI, gR_cpI, gI_cpI, gI_sI, gL_sL, gR_sR, St_sI, St_sL, St_cpI, Nat.reduceEqDiff, Nat.reduceAdd, eq_self, false_and, and_false, true_and, and_true, and_self, if_true, if_false, false_or, or_false, true_or, or_true, not_true_eq_false, not_false_eq_true, reduceIte, K_53, F_53_1, hS, e1, l1, List.length_nil, List.length_cons, Nat.zero_le] <;> first | done | decide | omega | fail) | fail) only [B_131_0, e_aload_n_0, e_call_1, psh_s, psh_n, Option.bind_some, e_sipush_1000, e_ic_lt, e_iconst_0, R_131, eq_self, true_or, or_true, b2i_or, T_131_12, B_131_12, e_iconst_1, e_iadd, e_istore_n_1, clr_i, clr_l, clr_a, clr_n, e_iload_n_1, e_call_3, e_istore_n_2, e_gotow, T_131_31, e_iload_n_2, e_bipush_12, e_ic_ge, e_bipush_15, e_call_2, e_ic_ne, e_iconst_m1, e_ishr, e_iand, e_if_ne, T_131_75, B_131_75, e_iinc_2_1, e_goto, T_131_81, B_131_81, kd_sI, ln_sI, hl_sI, gL_sI, gR_sI, kd_sL, ln_sL, hl_sL, gI_sL, gR_sL, kd_sR, ln_sR, hl_sR, gI_sR, gL_sR, kd_cpI, ln_cpI, hl_cpI, gL_cpI, gR_cpI, gI_cpI, gI_sI, gL_sL, gR_sR, St_sI, St_sL, St_cpI, Nat.reduceEqDiff, Nat.reduceAdd, eq_self, false_and, and_false, true_and, and_true, and_self, if_true, if_false, false_or, or_false, true_or, or_true, not_true_eq_false, not_false_eq_true, reduceIte, K_53, F_53_1, e1, l1, List.length_nil, List.length_cons, Nat.zero_le]
      rw [C_130 2  μ _ (K_2 hS) (by decide) hμ]
      simp (disch := first | assumption | exact b2i_01 _ | decide | omega | (simp only [kd_sI, ln_sI, hl_sI, gL_sI, gR_sI, kd_sL, ln_sL, hl_sL, gI_sL, gR_sL, kd_sR, ln_sR, hl_sR, gI_sR, gL_sR, kd_cpI, ln_cpI, hl_cpI, gL_cpI, gR_cpI, gI_cpI, gI_sI, gL_sL, gR_sR, St_sI, St_sL, St_cpI, Nat.reduceEqDiff, Nat.reduceAdd, eq_self, false_and, and_false, true_and, and_true, and_self, if_true, if_false, false_or, or_false, true_or, or_true, not_true_eq_false, not_false_eq_true, reduceIte, K_2, F_2_0, F_2_1, F_2_2, F_2_3, F_2_4, F_2_5, F_2_6, K_53, F_53_1, hS, e, b2i_f, b2i_t, e10, decide_true, decide_false, List.length_nil, List.length_cons, Nat.zero_le] <;> first | done | decide | omega | fail) | fail) only [B_130_0, e_aload_n_0, G_1103, e_call_1, psh_s, psh_n, Option.bind_some, e_if_eq, e_goto, T_130_20, B_130_20, e_iconst_m1, e_gotow, T_130_21, B_130_21, R_130, kd_sI, ln_sI, hl_sI, gL_sI, gR_sI, kd_sL, ln_sL, hl_sL, gI_sL, gR_sL, kd_sR, ln_sR, hl_sR, gI_sR, gL_sR, kd_cpI, ln_cpI, hl_cpI, gL_cpI, gR_cpI, gI_cpI, gI_sI, gL_sL, gR_sR, St_sI, St_sL, St_cpI, Nat.reduceEqDiff, Nat.reduceAdd, eq_self, false_and, and_false, true_and, and_true, and_self, if_true, if_false, false_or, or_false, true_or, or_true, not_true_eq_false, not_false_eq_true, reduceIte, K_2, F_2_0, F_2_1, F_2_2, F_2_3, F_2_4, F_2_5, F_2_6, K_53, F_53_1, e, b2i_f, b2i_t, e10, decide_true, decide_false, List.length_nil, List.length_cons, Nat.zero_le]
    · rw [C_280 66 μ h (K_66 hS) (by decide) hμ4]
      simp (disch := first | assumption | exact b2i_01 _ | decide | omega | (simp only [kd_sI, ln_sI, hl_sI, gL_sI, gR_sI, kd_sL, ln_sL, hl_sL, gI_sL, gR_sL, kd_sR, ln_sR, hl_sR, gI_sR, gL_sR, kd_cpI, ln_cpI, hl_cpI, gL_cpI, gR_cpI, gI_cpI, gI_sI, gL_sL, gR_sR, St_sI, St_sL, St_cpI, Nat.reduceEqDiff, Nat.reduceAdd, eq_self, false_and, and_false, true_and, and_true, and_self, if_true, if_false, false_or, or_false, true_or, or_true, not_true_eq_false, not_false_eq_true, reduceIte, K_66, F_66_0, F_66_10, F_66_11, F_66_12, F_66_13, F_66_14, F_66_15, F_66_16, F_66_17, F_66_18, F_66_25, F_66_26, F_66_27, F_66_28, F_66_29, F_66_30, F_66_31, F_66_32, F_66_33, F_66_34, F_66_35, F_66_36, F_66_37, F_66_38, F_66_39, F_66_60, F_66_61, F_66_62, F_66_63, F_66_66, F_66_68, F_66_69, F_66_71, F_66_72, F_66_73, F_66_74, F_66_77, F_66_78, F_66_79, F_66_80, F_66_81, F_66_84, F_66_85, F_66_86, F_66_87, K_94, N_94, hS, i0, k0, y2', l2] <;> first | done | decide | omega | fail) | fail) only [B_280_0, e_aload_n_0, G_1262, e_iconst_0, e_iaload, e_sipush_1000, e_ic_ne, e_iconst_m1, R_280, T_280_14, B_280_14, e_call_1, psh_s, psh_n, Option.bind_some, e_dup2, e_iconst_1, e_iadd, e_iastore, e_istore_n_1, clr_i, clr_l, clr_a, clr_n, e_gotow, T_280_30, e_iload_n_1, G_1252, e_ic_ge, e_bipush_15, e_ic_eq, e_goto, T_280_59, B_280_59, e_call_2, e_if_eq, T_280_80, B_280_80, e_iconst_2, e_ishl, e_ior, e_iconst_3, T_280_106, B_280_106, e_iinc_1_1, T_280_112, B_280_112, kd_sI, ln_sI, hl_sI, gL_sI, gR_sI, kd_sL, ln_sL, hl_sL, gI_sL, gR_sL, kd_sR, ln_sR, hl_sR, gI_sR, gL_sR, kd_cpI, ln_cpI, hl_cpI, gL_cpI, gR_cpI, gI_cpI, gI_sI, gL_sL, gR_sR, St_sI, St_sL, St_cpI, Nat.reduceEqDiff, Nat.reduceAdd, eq_self, false_and, and_false, true_and, and_true, and_self, if_true, if_false, false_or, or_false, true_or, or_true, not_true_eq_false, not_false_eq_true, reduceIte, K_66, F_66_0, F_66_10, F_66_11, F_66_12, F_66_13, F_66_14, F_66_15, F_66_16, F_66_17, F_66_18, F_66_25, F_66_26, F_66_27, F_66_28, F_66_29, F_66_30, F_66_31, F_66_32, F_66_33, F_66_34, F_66_35, F_66_36, F_66_37, F_66_38, F_66_39, F_66_60, F_66_61, F_66_62, F_66_63, F_66_66, F_66_68, F_66_69, F_66_71, F_66_72, F_66_73, F_66_74, F_66_77, F_66_78, F_66_79, F_66_80, F_66_81, F_66_84, F_66_85, F_66_86, F_66_87, K_94, N_94, i0, k0, y2', l2]
  · obtain ⟨h1, f1, ca1, hS1⟩ := q_startAct hI u1 (by omega) (μ := 6) (by omega)
    have e2 := s_Sn_yearNow (μ := 6) hS1 ca1.2.1 (by omega) (by omega)
    have ry1 : gI h1 54 ((p + 1) % 41 * 27 + 0) = nI yy := (ca1.row 0 (by omega)).trans ry
    rw [ry1] at e2
    have e3 := s_Sn_write (μ := 6) (j := 0) (v := nI (yy + 1)) hS1 ca1.2.1 (by omega) (by omega) (by omega)
    rw [← nI_lit] at e3
    have r1 := (CR.rf h1).write (v := nI (yy + 1)) (show (p + 1) % 41 < 44 by omega) (show 0 < 27 by omega)
    obtain ⟨h2, eh2⟩ : ∃ h2, h2 = sI h1 54 ((p + 1) % 41 * 27 + 0) (nI (yy + 1)) := ⟨_, rfl⟩
    rw [← eh2] at e3 r1
    have ca2 : CA h h2 p u (yrs (rowM h) (nI (yy + 1)) 0) := ca1.step r1 ((ca1.row.trans hAR.2.1).stj rfl)
    obtain ⟨h3, g3, ca3⟩ := lp_Sn_year hS 12 0 h2 (by omega) ca2
    have hS2 : St h2 := ca2.1.St hS (by decide +kernel)
    have hS3 : St h3 := ca3.1.St hS (by decide +kernel)
    have hu2 : gI h3 66 64 = nI u := by rw [ca3.1.I rfl]; exact u2
    obtain ⟨h4, f4, ma4, hS4⟩ := q_act hS3 hu2 (by omega) (μ := 4) (by omega)
    have eM : rowM h3 = rowM h := funext fun k => ca3.1.I rfl
    rw [eM] at ma4
    have v4 : gI h4 94 0 = nI yy := (ma4.2.2.2.1 0 (by omega)).trans y2
    have ma5 : MA h3 (sI h4 94 0 (nI (yy + 1))) u (yrs (rowM h) (nI (yy + 1)) 0) := ma4.step
    obtain ⟨h6, g6, ma6⟩ := lp_Mo_year (C := dC L) hS3 (by rw [ca3.1.I rfl]; exact mC) hb.2.2.1 (dC L) 0 _ (by omega) ma5
    have eqy : yrs (rowM h) (nI (yy + 1)) 12 = yrs (rowM h) (nI (yy + 1)) (dC L) := by
      have := yrs_beyond (N := rowM h) (y := nI (yy + 1)) (n := dC L) (fun q => by
        have : nI (yy + 1) < 0 := by rw [q]; decide
        exact nI_pos (by omega) this) (12 - dC L) (by omega) (fun c h1 h2 => hAR.2.2.1.2.2.2 c h1 h2)
      rwa [show dC L + (12 - dC L) = 12 by omega] at this
    have ry3 : gI h3 54 ((p + 1) % 41 * 27 + 0) = nI (yy + 1) := (ca3.row 0 (by omega)).trans (yrs_y 12)
    rw [eqy] at ca3
    refine ⟨(p + 1) % 41, h3, h6, nI (yy + 1), ?_, ?_, hI0.acted hAR ca3 ma6 (RowOK_yrs hB hAR.2.2.1 (by omega) (dC L) (Nat.le_refl _)) (Eq27.rf _)⟩
    · have l1 : (nI yy < 1000) = True := by
        rw [show (1000 : Int32) = nI 1000 from rfl, lt_nI (by omega) (by omega)]; exact eq_true (by omega)
      have e : cal 131 [.ref 53] 7 h = some (some (.int 1), h3) := by
        have hμ : 6 < 7 := by omega
        rw [C_131 53 7 h (K_53 hS) (by decide) hμ]
        simp (disch := first | assumption | exact b2i_01 _ | decide | omega | (simp only [kd_sI, ln_sI, hl_sI, gL_sI, gR_sI, kd_sL, ln_sL, hl_sL, gI_sL, gR_sL, kd_sR, ln_sR, hl_sR, gI_sR, gL_sR, kd_cpI, ln_cpI, hl_cpI, gL_cpI, gR_cpI, gI_cpI, gI_sI, gL_sL, gR_sR, St_sI, St_sL, St_cpI, Nat.reduceEqDiff, Nat.reduceAdd, eq_self, false_and, and_false, true_and, and_true, and_self, if_true, if_false, false_or, or_false, true_or, or_true, not_true_eq_false, not_false_eq_true, reduceIte, K_53, F_53_1, hS, hS1, hS2, e1, l1, f1, e2, nI_1, e3, List.length_nil, List.length_cons, Nat.zero_le] <;> first | done | decide | omega | fail) | fail) only [B_131_0, e_aload_n_0, e_call_1, psh_s, psh_n, Option.bind_some, e_sipush_1000, e_ic_lt, e_iconst_0, R_131, eq_self, true_or, or_true, b2i_or, T_131_12, B_131_12, e_iconst_1, e_iadd, e_istore_n_1, clr_i, clr_l, clr_a, clr_n, e_iload_n_1, e_call_3, e_istore_n_2, e_gotow, T_131_31, e_iload_n_2, e_bipush_12, e_ic_ge, e_bipush_15, e_call_2, e_ic_ne, e_iconst_m1, e_ishr, e_iand, e_if_ne, T_131_75, B_131_75, e_iinc_2_1, e_goto, T_131_81, B_131_81, kd_sI, ln_sI, hl_sI, gL_sI, gR_sI, kd_sL, ln_sL, hl_sL, gI_sL, gR_sL, kd_sR, ln_sR, hl_sR, gI_sR, gL_sR, kd_cpI, ln_cpI, hl_cpI, gL_cpI, gR_cpI, gI_cpI, gI_sI, gL_sL, gR_sR, St_sI, St_sL, St_cpI, Nat.reduceEqDiff, Nat.reduceAdd, eq_self, false_and, and_false, true_and, and_true, and_self, if_true, if_false, false_or, or_false, true_or, or_true, not_true_eq_false, not_false_eq_true, reduceIte, K_53, F_53_1, hS1, hS2, e1, l1, f1, e2, nI_1, e3, List.length_nil, List.length_cons, Nat.zero_le]
        exact g3
      have e4 := s_Sn_yearNow (μ := 7) hS3 ca3.2.1 (by omega) (by omega)
      rw [ry3] at e4
      rw [C_130 2  μ _ (K_2 hS) (by decide) hμ]
      simp (disch := first | assumption | exact b2i_01 _ | decide | omega | (simp only [kd_sI, ln_sI, hl_sI, gL_sI, gR_sI, kd_sL, ln_sL, hl_sL, gI_sL, gR_sL, kd_sR, ln_sR, hl_sR, gI_sR, gL_sR, kd_cpI, ln_cpI, hl_cpI, gL_cpI, gR_cpI, gI_cpI, gI_sI, gL_sL, gR_sR, St_sI, St_sL, St_cpI, Nat.reduceEqDiff, Nat.reduceAdd, eq_self, false_and, and_false, true_and, and_true, and_self, if_true, if_false, false_or, or_false, true_or, or_true, not_true_eq_false, not_false_eq_true, reduceIte, K_2, F_2_0, F_2_1, F_2_2, F_2_3, F_2_4, F_2_5, F_2_6, K_53, F_53_1, hS, hS3, e, e4, b2i_f, b2i_t, e10, decide_true, decide_false, List.length_nil, List.length_cons, Nat.zero_le] <;> first | done | decide | omega | fail) | fail) only [B_130_0, e_aload_n_0, G_1103, e_call_1, psh_s, psh_n, Option.bind_some, e_if_eq, e_goto, T_130_20, B_130_20, e_iconst_m1, e_gotow, T_130_21, B_130_21, R_130, kd_sI, ln_sI, hl_sI, gL_sI, gR_sI, kd_sL, ln_sL, hl_sL, gI_sL, gR_sL, kd_sR, ln_sR, hl_sR, gI_sR, gL_sR, kd_cpI, ln_cpI, hl_cpI, gL_cpI, gR_cpI, gI_cpI, gI_sI, gL_sL, gR_sR, St_sI, St_sL, St_cpI, Nat.reduceEqDiff, Nat.reduceAdd, eq_self, false_and, and_false, true_and, and_true, and_self, if_true, if_false, false_or, or_false, true_or, or_true, not_true_eq_false, not_false_eq_true, reduceIte, K_2, F_2_0, F_2_1, F_2_2, F_2_3, F_2_4, F_2_5, F_2_6, K_53, F_53_1, hS3, e, e4, b2i_f, b2i_t, e10, decide_true, decide_false, List.length_nil, List.length_cons, Nat.zero_le]
    · have v0 : gI h3 94 0 = nI yy := by rw [ca3.1.I rfl]; exact y2
      have l2 : (nI yy = 1000) = False := by
        rw [show (1000 : Int32) = nI 1000 from rfl, eq_nI (by omega) (by omega)]; exact eq_false c
      rw [C_280 66 μ h3 (K_66 hS3) (by decide) hμ4]
      simp (disch := first | assumption | exact b2i_01 _ | decide | omega | (simp only [kd_sI, ln_sI, hl_sI, gL_sI, gR_sI, kd_sL, ln_sL, hl_sL, gI_sL, gR_sL, kd_sR, ln_sR, hl_sR, gI_sR, gL_sR, kd_cpI, ln_cpI, hl_cpI, gL_cpI, gR_cpI, gI_cpI, gI_sI, gL_sL, gR_sR, St_sI, St_sL, St_cpI, Nat.reduceEqDiff, Nat.reduceAdd, eq_self, false_and, and_false, true_and, and_true, and_self, if_true, if_false, false_or, or_false, true_or, or_true, not_true_eq_false, not_false_eq_true, reduceIte, K_66, F_66_0, F_66_10, F_66_11, F_66_12, F_66_13, F_66_14, F_66_15, F_66_16, F_66_17, F_66_18, F_66_25, F_66_26, F_66_27, F_66_28, F_66_29, F_66_30, F_66_31, F_66_32, F_66_33, F_66_34, F_66_35, F_66_36, F_66_37, F_66_38, F_66_39, F_66_60, F_66_61, F_66_62, F_66_63, F_66_66, F_66_68, F_66_69, F_66_71, F_66_72, F_66_73, F_66_74, F_66_77, F_66_78, F_66_79, F_66_80, F_66_81, F_66_84, F_66_85, F_66_86, F_66_87, K_94, N_94, hS, hS3, hS4, i0, k0, v0, v4, l2, f4, nI_1, List.length_nil, List.length_cons, Nat.zero_le] <;> first | done | decide | omega | fail) | fail) only [B_280_0, e_aload_n_0, G_1262, e_iconst_0, e_iaload, e_sipush_1000, e_ic_ne, e_iconst_m1, R_280, T_280_14, B_280_14, e_call_1, psh_s, psh_n, Option.bind_some, e_dup2, e_iconst_1, e_iadd, e_iastore, e_istore_n_1, clr_i, clr_l, clr_a, clr_n, e_gotow, T_280_30, e_iload_n_1, G_1252, e_ic_ge, e_bipush_15, e_ic_eq, e_goto, T_280_59, B_280_59, e_call_2, e_if_eq, T_280_80, B_280_80, e_iconst_2, e_ishl, e_ior, e_iconst_3, T_280_106, B_280_106, e_iinc_1_1, T_280_112, B_280_112, kd_sI, ln_sI, hl_sI, gL_sI, gR_sI, kd_sL, ln_sL, hl_sL, gI_sL, gR_sL, kd_sR, ln_sR, hl_sR, gI_sR, gL_sR, kd_cpI, ln_cpI, hl_cpI, gL_cpI, gR_cpI, gI_cpI, gI_sI, gL_sL, gR_sR, St_sI, St_sL, St_cpI, Nat.reduceEqDiff, Nat.reduceAdd, eq_self, false_and, and_false, true_and, and_true, and_self, if_true, if_false, false_or, or_false, true_or, or_true, not_true_eq_false, not_false_eq_true, reduceIte, K_66, F_66_0, F_66_10, F_66_11, F_66_12, F_66_13, F_66_14, F_66_15, F_66_16, F_66_17, F_66_18, F_66_25, F_66_26, F_66_27, F_66_28, F_66_29, F_66_30, F_66_31, F_66_32, F_66_33, F_66_34, F_66_35, F_66_36, F_66_37, F_66_38, F_66_39, F_66_60, F_66_61, F_66_62, F_66_63, F_66_66, F_66_68, F_66_69, F_66_71, F_66_72, F_66_73, F_66_74, F_66_77, F_66_78, F_66_79, F_66_80, F_66_81, F_66_84, F_66_85, F_66_86, F_66_87, K_94, N_94, hS3, hS4, i0, k0, v0, v4, l2, f4, nI_1, List.length_nil, List.length_cons, Nat.zero_le]
      exact g6
