/-! the reference's rows -/
theorem rowM_sI {h : MH} {j : Nat} {v : Int32} : rowM (sI h 94 j v) = stj (rowM h) j v := by
  funext k
  show gI (sI h 94 j v) 94 k = _
  rw [gI_sI]
  by_cases c : k = j
  · rw [if_pos ⟨rfl, c⟩, c, stj_s]
  · rw [if_neg (fun q => c q.2), stj_o c]; rfl
def cpw (f g : Nat → Int32) (d n : Nat) : Nat → Int32 := fun y => if d ≤ y ∧ y < d + n then f (y - d) else g y
theorem cpw_s {f g : Nat → Int32} {d n : Nat} {h : MH} {a : Nat} (e : ∀ y, gI h a y = cpw f g d n y) : ∀ y, gI (sI h a (d + n) (f n)) a y = cpw f g d (n + 1) y := by
  intro y
  rw [gI_sI, e y]
  unfold cpw
  by_cases c : y = d + n
  · rw [if_pos ⟨rfl, c⟩, if_pos (by omega), c, show d + n - d = n by omega]
  · rw [if_neg (fun q => c q.2)]
    by_cases c2 : d ≤ y ∧ y < d + n
    · rw [if_pos c2, if_pos (by omega)]
    · rw [if_neg c2, if_neg (by omega)]
/-- the present row into a row of those that were -/
theorem lp_Mo_act {h0 : MH} {u : Nat} (hS0 : St h0) (hu : gI h0 66 64 = nI u) (hu2 : u < 40) : ∀ m i h, i + m = 27 → Sm h0 h [(95, none)] → (∀ y, gI h 95 y = cpw (gI h0 94) (gI h0 95) (32 * u) i y) → ∃ h', rn 277 3 B_277_51 [some (.ref 66), some (.int (nI i))] [] h = some (none, h') ∧ Sm h0 h' [(66, some 64), (66, some 65), (95, none)] ∧ gI h' 66 64 = nI (u + 1) ∧ gI h' 66 65 = nI 0 ∧ ∀ y, gI h' 95 y = cpw (gI h0 94) (gI h0 95) (32 * u) 27 y := by
  intro m
  induction m with
  | zero =>
    intro i h hi s e
    obtain rfl : i = 27 := by omega
    have hS : St h := s.St hS0 (by decide +kernel)
    have hu' : gI h 66 64 = nI u := by rw [s.I rfl]; exact hu
    refine ⟨sI (sI h 66 64 (nI (u + 1))) 66 65 0, ?_, ((s.mono (by decide)).sI rfl).sI rfl, ?_, ?_, fun y => ?_⟩
    · rw [B_277_51]
      simp (disch := first | assumption | exact b2i_01 _ | decide | omega | (simp only [kd_sI, ln_sI, hl_sI, gL_sI, gR_sI, kd_sL, ln_sL, hl_sL, gI_sL, gR_sL, kd_sR, ln_sR, hl_sR, gI_sR, gL_sR, kd_cpI, ln_cpI, hl_cpI, gL_cpI, gR_cpI, gI_cpI, gI_sI, gL_sL, gR_sR, St_sI, St_sL, St_cpI, Nat.reduceEqDiff, Nat.reduceAdd, eq_self, false_and, and_false, true_and, and_true, and_self, if_true, if_false, false_or, or_false, true_or, or_true, not_true_eq_false, not_false_eq_true, reduceIte, K_66, F_66_0, F_66_10, F_66_11, F_66_12, F_66_13, F_66_14, F_66_15, F_66_16, F_66_17, F_66_18, F_66_25, F_66_26, F_66_27, F_66_28, F_66_29, F_66_30, F_66_31, F_66_32, F_66_33, F_66_34, F_66_35, F_66_36, F_66_37, F_66_38, F_66_39, F_66_60, F_66_61, F_66_62, F_66_63, F_66_66, F_66_68, F_66_69, F_66_71, F_66_72, F_66_73, F_66_74, F_66_77, F_66_78, F_66_79, F_66_80, F_66_81, F_66_84, F_66_85, F_66_86, F_66_87, hS, hu', (eq_true (by simp (disch := omega) only [nI_lit, nI_add, lt_nI, le_nI, eq_nI] <;> omega) : ((27 : Int32) ≤ nI 27) = True), nI_1] <;> first | done | decide | omega | fail) | fail) only [B_277_0, e_aload_n_0, G_1264, e_bipush_40, e_ic_ne, e_iconst_0, e_istore_n_1, clr_i, clr_l, clr_a, clr_n, e_gotow, T_277_11, e_iload_n_1, e_sipush_1248, e_ic_ge, G_1263, e_bipush_32, e_iadd, e_iaload, e_iastore, e_iinc_1_1, e_goto, T_277_39, B_277_39, e_dup_i, e_dup_a, e_iconst_1, e_isub, P_1264, T_277_49, B_277_49, T_277_51, e_bipush_27, e_imul, G_1262, T_277_83, B_277_83, P_1265, R_277, kd_sI, ln_sI, hl_sI, gL_sI, gR_sI, kd_sL, ln_sL, hl_sL, gI_sL, gR_sL, kd_sR, ln_sR, hl_sR, gI_sR, gL_sR, kd_cpI, ln_cpI, hl_cpI, gL_cpI, gR_cpI, gI_cpI, gI_sI, gL_sL, gR_sR, St_sI, St_sL, St_cpI, Nat.reduceEqDiff, Nat.reduceAdd, eq_self, false_and, and_false, true_and, and_true, and_self, if_true, if_false, false_or, or_false, true_or, or_true, not_true_eq_false, not_false_eq_true, reduceIte, K_66, F_66_0, F_66_10, F_66_11, F_66_12, F_66_13, F_66_14, F_66_15, F_66_16, F_66_17, F_66_18, F_66_25, F_66_26, F_66_27, F_66_28, F_66_29, F_66_30, F_66_31, F_66_32, F_66_33, F_66_34, F_66_35, F_66_36, F_66_37, F_66_38, F_66_39, F_66_60, F_66_61, F_66_62, F_66_63, F_66_66, F_66_68, F_66_69, F_66_71, F_66_72, F_66_73, F_66_74, F_66_77, F_66_78, F_66_79, F_66_80, F_66_81, F_66_84, F_66_85, F_66_86, F_66_87, hu', (eq_true (by simp (disch := omega) only [nI_lit, nI_add, lt_nI, le_nI, eq_nI] <;> omega) : ((27 : Int32) ≤ nI 27) = True), nI_1]
    · simp only [kd_sI, ln_sI, hl_sI, gL_sI, gR_sI, kd_sL, ln_sL, hl_sL, gI_sL, gR_sL, kd_sR, ln_sR, hl_sR, gI_sR, gL_sR, kd_cpI, ln_cpI, hl_cpI, gL_cpI, gR_cpI, gI_cpI, gI_sI, gL_sL, gR_sR, St_sI, St_sL, St_cpI, Nat.reduceEqDiff, Nat.reduceAdd, eq_self, false_and, and_false, true_and, and_true, and_self, if_true, if_false, false_or, or_false, true_or, or_true, not_true_eq_false, not_false_eq_true, reduceIte]
    · simp only [kd_sI, ln_sI, hl_sI, gL_sI, gR_sI, kd_sL, ln_sL, hl_sL, gI_sL, gR_sL, kd_sR, ln_sR, hl_sR, gI_sR, gL_sR, kd_cpI, ln_cpI, hl_cpI, gL_cpI, gR_cpI, gI_cpI, gI_sI, gL_sL, gR_sR, St_sI, St_sL, St_cpI, Nat.reduceEqDiff, Nat.reduceAdd, eq_self, false_and, and_false, true_and, and_true, and_self, if_true, if_false, false_or, or_false, true_or, or_true, not_true_eq_false, not_false_eq_true, reduceIte]; rfl
    · simp only [kd_sI, ln_sI, hl_sI, gL_sI, gR_sI, kd_sL, ln_sL, hl_sL, gI_sL, gR_sL, kd_sR, ln_sR, hl_sR, gI_sR, gL_sR, kd_cpI, ln_cpI, hl_cpI, gL_cpI, gR_cpI, gI_cpI, gI_sI, gL_sL, gR_sR, St_sI, St_sL, St_cpI, Nat.reduceEqDiff, Nat.reduceAdd, eq_self, false_and, and_false, true_and, and_true, and_self, if_true, if_false, false_or, or_false, true_or, or_true, not_true_eq_false, not_false_eq_true, reduceIte]; exact e y
  | succ m ih =>
    intro i h hi s e
    have hS : St h := s.St hS0 (by decide +kernel)
    have hu' : gI h 66 64 = nI u := by rw [s.I rfl]; exact hu
    have h94 : gI h 94 i = gI h0 94 i := s.I rfl
    obtain ⟨h', g, q⟩ := ih (i + 1) (sI h 95 (32 * u + i) (gI h0 94 i)) (by omega) (s.sI rfl) (cpw_s e)
    refine ⟨h', ?_, q⟩
    have e32 : (32 : Int32) * nI u + nI i = nI (32 * u + i) := by rw [show (32 : Int32) = nI 32 from rfl, mul_nI, nI_add]
    have b1 : inBd (nI (32 * u + i)) 1280 = true := inBd_nI (by omega) (by omega)
    have t1 := tc_nI (show 32 * u + i < 2147483648 by omega)
    have b2 : inBd (nI i) 32 = true := inBd_nI (by omega) (by omega)
    have t2 := tc_nI (show i < 2147483648 by omega)
    rw [B_277_51]
    simp (disch := first | assumption | exact b2i_01 _ | decide | omega | (simp only [kd_sI, ln_sI, hl_sI, gL_sI, gR_sI, kd_sL, ln_sL, hl_sL, gI_sL, gR_sL, kd_sR, ln_sR, hl_sR, gI_sR, gL_sR, kd_cpI, ln_cpI, hl_cpI, gL_cpI, gR_cpI, gI_cpI, gI_sI, gL_sL, gR_sR, St_sI, St_sL, St_cpI, Nat.reduceEqDiff, Nat.reduceAdd, eq_self, false_and, and_false, true_and, and_true, and_self, if_true, if_false, false_or, or_false, true_or, or_true, not_true_eq_false, not_false_eq_true, reduceIte, K_66, F_66_0, F_66_10, F_66_11, F_66_12, F_66_13, F_66_14, F_66_15, F_66_16, F_66_17, F_66_18, F_66_25, F_66_26, F_66_27, F_66_28, F_66_29, F_66_30, F_66_31, F_66_32, F_66_33, F_66_34, F_66_35, F_66_36, F_66_37, F_66_38, F_66_39, F_66_60, F_66_61, F_66_62, F_66_63, F_66_66, F_66_68, F_66_69, F_66_71, F_66_72, F_66_73, F_66_74, F_66_77, F_66_78, F_66_79, F_66_80, F_66_81, F_66_84, F_66_85, F_66_86, F_66_87, K_94, N_94, K_95, N_95, hS, hu', h94, (eq_false (by simp (disch := omega) only [nI_lit, nI_add, lt_nI, le_nI, eq_nI] <;> omega) : ((27 : Int32) ≤ nI i) = False), e32, b1, t1, b2, t2, nI_1, g] <;> first | done | decide | omega | fail) | fail) only [B_277_0, e_aload_n_0, G_1264, e_bipush_40, e_ic_ne, e_iconst_0, e_istore_n_1, clr_i, clr_l, clr_a, clr_n, e_gotow, T_277_11, e_iload_n_1, e_sipush_1248, e_ic_ge, G_1263, e_bipush_32, e_iadd, e_iaload, e_iastore, e_iinc_1_1, e_goto, T_277_39, B_277_39, e_dup_i, e_dup_a, e_iconst_1, e_isub, P_1264, T_277_49, B_277_49, T_277_51, e_bipush_27, e_imul, G_1262, T_277_83, B_277_83, P_1265, R_277, kd_sI, ln_sI, hl_sI, gL_sI, gR_sI, kd_sL, ln_sL, hl_sL, gI_sL, gR_sL, kd_sR, ln_sR, hl_sR, gI_sR, gL_sR, kd_cpI, ln_cpI, hl_cpI, gL_cpI, gR_cpI, gI_cpI, gI_sI, gL_sL, gR_sR, St_sI, St_sL, St_cpI, Nat.reduceEqDiff, Nat.reduceAdd, eq_self, false_and, and_false, true_and, and_true, and_self, if_true, if_false, false_or, or_false, true_or, or_true, not_true_eq_false, not_false_eq_true, reduceIte, K_66, F_66_0, F_66_10, F_66_11, F_66_12, F_66_13, F_66_14, F_66_15, F_66_16, F_66_17, F_66_18, F_66_25, F_66_26, F_66_27, F_66_28, F_66_29, F_66_30, F_66_31, F_66_32, F_66_33, F_66_34, F_66_35, F_66_36, F_66_37, F_66_38, F_66_39, F_66_60, F_66_61, F_66_62, F_66_63, F_66_66, F_66_68, F_66_69, F_66_71, F_66_72, F_66_73, F_66_74, F_66_77, F_66_78, F_66_79, F_66_80, F_66_81, F_66_84, F_66_85, F_66_86, F_66_87, K_94, N_94, K_95, N_95, hu', h94, (eq_false (by simp (disch := omega) only [nI_lit, nI_add, lt_nI, le_nI, eq_nI] <;> omega) : ((27 : Int32) ≤ nI i) = False), e32, b1, t1, b2, t2, nI_1, g]
def shw (g : Nat → Int32) (n : Nat) : Nat → Int32 := fun y => if y < n then g (32 + y) else g y
theorem lp_Mo_shift {h0 : MH} (hS0 : St h0) : ∀ m i h, i + m = 1248 → Sm h0 h [(95, none)] → (∀ y, gI h 95 y = shw (gI h0 95) i y) → ∃ h', rn 277 3 B_277_11 [some (.ref 66), some (.int (nI i))] [] h = rn 277 3 B_277_39 [some (.ref 66), some (.int (nI 1248))] [] h' ∧ Sm h0 h' [(95, none)] ∧ ∀ y, gI h' 95 y = shw (gI h0 95) 1248 y := by
  intro m
  induction m with
  | zero =>
    intro i h hi s e
    obtain rfl : i = 1248 := by omega
    have hS : St h := s.St hS0 (by decide +kernel)
    refine ⟨h, ?_, s, e⟩
    rw [B_277_11]
    simp (disch := first | assumption | exact b2i_01 _ | decide | omega | (simp only [kd_sI, ln_sI, hl_sI, gL_sI, gR_sI, kd_sL, ln_sL, hl_sL, gI_sL, gR_sL, kd_sR, ln_sR, hl_sR, gI_sR, gL_sR, kd_cpI, ln_cpI, hl_cpI, gL_cpI, gR_cpI, gI_cpI, gI_sI, gL_sL, gR_sR, St_sI, St_sL, St_cpI, Nat.reduceEqDiff, Nat.reduceAdd, eq_self, false_and, and_false, true_and, and_true, and_self, if_true, if_false, false_or, or_false, true_or, or_true, not_true_eq_false, not_false_eq_true, reduceIte, K_66, F_66_0, F_66_10, F_66_11, F_66_12, F_66_13, F_66_14, F_66_15, F_66_16, F_66_17, F_66_18, F_66_25, F_66_26, F_66_27, F_66_28, F_66_29, F_66_30, F_66_31, F_66_32, F_66_33, F_66_34, F_66_35, F_66_36, F_66_37, F_66_38, F_66_39, F_66_60, F_66_61, F_66_62, F_66_63, F_66_66, F_66_68, F_66_69, F_66_71, F_66_72, F_66_73, F_66_74, F_66_77, F_66_78, F_66_79, F_66_80, F_66_81, F_66_84, F_66_85, F_66_86, F_66_87, hS, (eq_true (by simp (disch := omega) only [nI_lit, nI_add, lt_nI, le_nI, eq_nI] <;> omega) : ((1248 : Int32) ≤ nI 1248) = True)] <;> first | done | decide | omega | fail) | fail) only [B_277_0, e_aload_n_0, G_1264, e_bipush_40, e_ic_ne, e_iconst_0, e_istore_n_1, clr_i, clr_l, clr_a, clr_n, e_gotow, T_277_11, e_iload_n_1, e_sipush_1248, e_ic_ge, G_1263, e_bipush_32, e_iadd, e_iaload, e_iastore, e_iinc_1_1, e_goto, T_277_39, e_dup_i, e_dup_a, e_iconst_1, e_isub, P_1264, T_277_49, B_277_49, T_277_51, e_bipush_27, e_imul, G_1262, T_277_83, B_277_83, P_1265, R_277, kd_sI, ln_sI, hl_sI, gL_sI, gR_sI, kd_sL, ln_sL, hl_sL, gI_sL, gR_sL, kd_sR, ln_sR, hl_sR, gI_sR, gL_sR, kd_cpI, ln_cpI, hl_cpI, gL_cpI, gR_cpI, gI_cpI, gI_sI, gL_sL, gR_sR, St_sI, St_sL, St_cpI, Nat.reduceEqDiff, Nat.reduceAdd, eq_self, false_and, and_false, true_and, and_true, and_self, if_true, if_false, false_or, or_false, true_or, or_true, not_true_eq_false, not_false_eq_true, reduceIte, K_66, F_66_0, F_66_10, F_66_11, F_66_12, F_66_13, F_66_14, F_66_15, F_66_16, F_66_17, F_66_18, F_66_25, F_66_26, F_66_27, F_66_28, F_66_29, F_66_30, F_66_31, F_66_32, F_66_33, F_66_34, F_66_35, F_66_36, F_66_37, F_66_38, F_66_39, F_66_60, F_66_61, F_66_62, F_66_63, F_66_66, F_66_68, F_66_69, F_66_71, F_66_72, F_66_73, F_66_74, F_66_77, F_66_78, F_66_79, F_66_80, F_66_81, F_66_84, F_66_85, F_66_86, F_66_87, (eq_true (by simp (disch := omega) only [nI_lit, nI_add, lt_nI, le_nI, eq_nI] <;> omega) : ((1248 : Int32) ≤ nI 1248) = True)]
  | succ m ih =>
    intro i h hi s e
    have hS : St h := s.St hS0 (by decide +kernel)
    have v : gI h 95 (32 + i) = gI h0 95 (32 + i) := by
      rw [e]; unfold shw; rw [if_neg (by omega)]
    obtain ⟨h', g, q⟩ := ih (i + 1) (sI h 95 i (gI h0 95 (32 + i))) (by omega) (s.sI rfl) (fun y => by
      rw [gI_sI, e y]
      unfold shw
      by_cases c : y = i
      · rw [if_pos ⟨rfl, c⟩, if_pos (by omega), c]
      · rw [if_neg (fun q => c q.2)]
        by_cases c2 : y < i
        · rw [if_pos c2, if_pos (by omega)]
        · rw [if_neg c2, if_neg (by omega)])
    refine ⟨h', ?_, q⟩
    have e32 : (32 : Int32) + nI i = nI (32 + i) := by rw [show (32 : Int32) = nI 32 from rfl, nI_add]
    have b1 : inBd (nI (32 + i)) 1280 = true := inBd_nI (by omega) (by omega)
    have t1 := tc_nI (show 32 + i < 2147483648 by omega)
    have b2 : inBd (nI i) 1280 = true := inBd_nI (by omega) (by omega)
    have t2 := tc_nI (show i < 2147483648 by omega)
    rw [B_277_11]
    simp (disch := first | assumption | exact b2i_01 _ | decide | omega | (simp only [kd_sI, ln_sI, hl_sI, gL_sI, gR_sI, kd_sL, ln_sL, hl_sL, gI_sL, gR_sL, kd_sR, ln_sR, hl_sR, gI_sR, gL_sR, kd_cpI, ln_cpI, hl_cpI, gL_cpI, gR_cpI, gI_cpI, gI_sI, gL_sL, gR_sR, St_sI, St_sL, St_cpI, Nat.reduceEqDiff, Nat.reduceAdd, eq_self, false_and, and_false, true_and, and_true, and_self, if_true, if_false, false_or, or_false, true_or, or_true, not_true_eq_false, not_false_eq_true, reduceIte, K_66, F_66_0, F_66_10, F_66_11, F_66_12, F_66_13, F_66_14, F_66_15, F_66_16, F_66_17, F_66_18, F_66_25, F_66_26, F_66_27, F_66_28, F_66_29, F_66_30, F_66_31, F_66_32, F_66_33, F_66_34, F_66_35, F_66_36, F_66_37, F_66_38, F_66_39, F_66_60, F_66_61, F_66_62, F_66_63, F_66_66, F_66_68, F_66_69, F_66_71, F_66_72, F_66_73, F_66_74, F_66_77, F_66_78, F_66_79, F_66_80, F_66_81, F_66_84, F_66_85, F_66_86, F_66_87, K_95, N_95, hS, (eq_false (by simp (disch := omega) only [nI_lit, nI_add, lt_nI, le_nI, eq_nI] <;> omega) : ((1248 : Int32) ≤ nI i) = False), e32, b1, t1, b2, t2, v, nI_1, g] <;> first | done | decide | omega | fail) | fail) only [B_277_0, e_aload_n_0, G_1264, e_bipush_40, e_ic_ne, e_iconst_0, e_istore_n_1, clr_i, clr_l, clr_a, clr_n, e_gotow, T_277_11, e_iload_n_1, e_sipush_1248, e_ic_ge, G_1263, e_bipush_32, e_iadd, e_iaload, e_iastore, e_iinc_1_1, e_goto, T_277_39, e_dup_i, e_dup_a, e_iconst_1, e_isub, P_1264, T_277_49, B_277_49, T_277_51, e_bipush_27, e_imul, G_1262, T_277_83, B_277_83, P_1265, R_277, kd_sI, ln_sI, hl_sI, gL_sI, gR_sI, kd_sL, ln_sL, hl_sL, gI_sL, gR_sL, kd_sR, ln_sR, hl_sR, gI_sR, gL_sR, kd_cpI, ln_cpI, hl_cpI, gL_cpI, gR_cpI, gI_cpI, gI_sI, gL_sL, gR_sR, St_sI, St_sL, St_cpI, Nat.reduceEqDiff, Nat.reduceAdd, eq_self, false_and, and_false, true_and, and_true, and_self, if_true, if_false, false_or, or_false, true_or, or_true, not_true_eq_false, not_false_eq_true, reduceIte, K_66, F_66_0, F_66_10, F_66_11, F_66_12, F_66_13, F_66_14, F_66_15, F_66_16, F_66_17, F_66_18, F_66_25, F_66_26, F_66_27, F_66_28, F_66_29, F_66_30, F_66_31, F_66_32, F_66_33, F_66_34, F_66_35, F_66_36, F_66_37, F_66_38, F_66_39, F_66_60, F_66_61, F_66_62, F_66_63, F_66_66, F_66_68, F_66_69, F_66_71, F_66_72, F_66_73, F_66_74, F_66_77, F_66_78, F_66_79, F_66_80, F_66_81, F_66_84, F_66_85, F_66_86, F_66_87, K_95, N_95, (eq_false (by simp (disch := omega) only [nI_lit, nI_add, lt_nI, le_nI, eq_nI] <;> omega) : ((1248 : Int32) ≤ nI i) = False), e32, b1, t1, b2, t2, v, nI_1, g]
theorem s_Mo_act {h : MH} {u μ : Nat} (hS : St h) (hu : gI h 66 64 = nI u) (hu2 : u ≤ 40) (hμ : 3 < μ) : ∃ h', cal 277 [.ref 66] μ h = some (none, h') ∧ Sm h h' [(66, some 64), (66, some 65), (95, none)] ∧ gI h' 66 64 = nI (if u = 40 then 40 else u + 1) ∧ gI h' 66 65 = nI 0 ∧ ∀ j, j < 40 → Eq27 (rowW h' j) ((if u = 40 then (fun j => if j = 39 then rowM h else rowW h (j + 1)) else (fun j => if j = u then rowM h else rowW h j)) j) := by
  have e40 : (nI u = 40) = (u = 40) := by rw [show (40 : Int32) = nI 40 from rfl, eq_nI (by omega) (by omega)]
  by_cases c : u = 40
  · subst c
    obtain ⟨h1, g1, s1, v1⟩ := lp_Mo_shift hS 1248 0 h (by omega) (Sm.rf h _) (fun y => by unfold shw; rw [if_neg (by omega)])
    have hS1 : St h1 := s1.St hS (by decide +kernel)
    have hu1 : gI h1 66 64 = 40 := by rw [s1.I rfl]; exact hu
    have s2 : Sm h (sI h1 66 64 39) [(66, some 64), (66, some 65), (95, none)] := (s1.mono (by decide)).sI rfl
    have hS2 : St (sI h1 66 64 39) := s2.St hS (by decide +kernel)
    have hu2 : gI (sI h1 66 64 39) 66 64 = nI 39 := by simp only [kd_sI, ln_sI, hl_sI, gL_sI, gR_sI, kd_sL, ln_sL, hl_sL, gI_sL, gR_sL, kd_sR, ln_sR, hl_sR, gI_sR, gL_sR, kd_cpI, ln_cpI, hl_cpI, gL_cpI, gR_cpI, gI_cpI, gI_sI, gL_sL, gR_sR, St_sI, St_sL, St_cpI, Nat.reduceEqDiff, Nat.reduceAdd, eq_self, false_and, and_false, true_and, and_true, and_self, if_true, if_false, false_or, or_false, true_or, or_true, not_true_eq_false, not_false_eq_true, reduceIte]; rfl
    obtain ⟨h3, g3, s3, w1, w2, w3⟩ := lp_Mo_act hS2 hu2 (by omega) 27 0 _ (by omega) (Sm.rf _ _) (fun y => by unfold cpw; rw [if_neg (by omega)])
    refine ⟨h3, ?_, s2.trans s3, ?_, w2, fun j hj => ?_⟩
    · have z : (40 : Int32) - 1 = 39 := by decide
      have hu0 : gI h 66 64 = 40 := hu
      rw [C_277 66  μ _ (K_66 hS) (by decide) hμ]
      simp (disch := first | assumption | exact b2i_01 _ | decide | omega | (simp only [kd_sI, ln_sI, hl_sI, gL_sI, gR_sI, kd_sL, ln_sL, hl_sL, gI_sL, gR_sL, kd_sR, ln_sR, hl_sR, gI_sR, gL_sR, kd_cpI, ln_cpI, hl_cpI, gL_cpI, gR_cpI, gI_cpI, gI_sI, gL_sL, gR_sR, St_sI, St_sL, St_cpI, Nat.reduceEqDiff, Nat.reduceAdd, eq_self, false_and, and_false, true_and, and_true, and_self, if_true, if_false, false_or, or_false, true_or, or_true, not_true_eq_false, not_false_eq_true, reduceIte, K_66, F_66_0, F_66_10, F_66_11, F_66_12, F_66_13, F_66_14, F_66_15, F_66_16, F_66_17, F_66_18, F_66_25, F_66_26, F_66_27, F_66_28, F_66_29, F_66_30, F_66_31, F_66_32, F_66_33, F_66_34, F_66_35, F_66_36, F_66_37, F_66_38, F_66_39, F_66_60, F_66_61, F_66_62, F_66_63, F_66_66, F_66_68, F_66_69, F_66_71, F_66_72, F_66_73, F_66_74, F_66_77, F_66_78, F_66_79, F_66_80, F_66_81, F_66_84, F_66_85, F_66_86, F_66_87, hS, hu0, e40] <;> first | done | decide | omega | fail) | fail) only [B_277_0, e_aload_n_0, G_1264, e_bipush_40, e_ic_ne, e_iconst_0, e_istore_n_1, clr_i, clr_l, clr_a, clr_n, e_gotow, T_277_11, e_iload_n_1, e_sipush_1248, e_ic_ge, G_1263, e_bipush_32, e_iadd, e_iaload, e_iastore, e_iinc_1_1, e_goto, T_277_39, e_dup_i, e_dup_a, e_iconst_1, e_isub, P_1264, T_277_49, B_277_49, T_277_51, e_bipush_27, e_imul, G_1262, T_277_83, B_277_83, P_1265, R_277, kd_sI, ln_sI, hl_sI, gL_sI, gR_sI, kd_sL, ln_sL, hl_sL, gI_sL, gR_sL, kd_sR, ln_sR, hl_sR, gI_sR, gL_sR, kd_cpI, ln_cpI, hl_cpI, gL_cpI, gR_cpI, gI_cpI, gI_sI, gL_sL, gR_sR, St_sI, St_sL, St_cpI, Nat.reduceEqDiff, Nat.reduceAdd, eq_self, false_and, and_false, true_and, and_true, and_self, if_true, if_false, false_or, or_false, true_or, or_true, not_true_eq_false, not_false_eq_true, reduceIte, K_66, F_66_0, F_66_10, F_66_11, F_66_12, F_66_13, F_66_14, F_66_15, F_66_16, F_66_17, F_66_18, F_66_25, F_66_26, F_66_27, F_66_28, F_66_29, F_66_30, F_66_31, F_66_32, F_66_33, F_66_34, F_66_35, F_66_36, F_66_37, F_66_38, F_66_39, F_66_60, F_66_61, F_66_62, F_66_63, F_66_66, F_66_68, F_66_69, F_66_71, F_66_72, F_66_73, F_66_74, F_66_77, F_66_78, F_66_79, F_66_80, F_66_81, F_66_84, F_66_85, F_66_86, F_66_87, hu0, e40]
      rw [show (0 : Int32) = nI 0 from rfl, g1, B_277_39]
      simp (disch := first | assumption | exact b2i_01 _ | decide | omega | (simp only [kd_sI, ln_sI, hl_sI, gL_sI, gR_sI, kd_sL, ln_sL, hl_sL, gI_sL, gR_sL, kd_sR, ln_sR, hl_sR, gI_sR, gL_sR, kd_cpI, ln_cpI, hl_cpI, gL_cpI, gR_cpI, gI_cpI, gI_sI, gL_sL, gR_sR, St_sI, St_sL, St_cpI, Nat.reduceEqDiff, Nat.reduceAdd, eq_self, false_and, and_false, true_and, and_true, and_self, if_true, if_false, false_or, or_false, true_or, or_true, not_true_eq_false, not_false_eq_true, reduceIte, K_66, F_66_0, F_66_10, F_66_11, F_66_12, F_66_13, F_66_14, F_66_15, F_66_16, F_66_17, F_66_18, F_66_25, F_66_26, F_66_27, F_66_28, F_66_29, F_66_30, F_66_31, F_66_32, F_66_33, F_66_34, F_66_35, F_66_36, F_66_37, F_66_38, F_66_39, F_66_60, F_66_61, F_66_62, F_66_63, F_66_66, F_66_68, F_66_69, F_66_71, F_66_72, F_66_73, F_66_74, F_66_77, F_66_78, F_66_79, F_66_80, F_66_81, F_66_84, F_66_85, F_66_86, F_66_87, hS, hS1, hu1, z] <;> first | done | decide | omega | fail) | fail) only [B_277_0, e_aload_n_0, G_1264, e_bipush_40, e_ic_ne, e_iconst_0, e_istore_n_1, clr_i, clr_l, clr_a, clr_n, e_gotow, T_277_11, e_iload_n_1, e_sipush_1248, e_ic_ge, G_1263, e_bipush_32, e_iadd, e_iaload, e_iastore, e_iinc_1_1, e_goto, T_277_39, e_dup_i, e_dup_a, e_iconst_1, e_isub, P_1264, T_277_49, B_277_49, T_277_51, e_bipush_27, e_imul, G_1262, T_277_83, B_277_83, P_1265, R_277, kd_sI, ln_sI, hl_sI, gL_sI, gR_sI, kd_sL, ln_sL, hl_sL, gI_sL, gR_sL, kd_sR, ln_sR, hl_sR, gI_sR, gL_sR, kd_cpI, ln_cpI, hl_cpI, gL_cpI, gR_cpI, gI_cpI, gI_sI, gL_sL, gR_sR, St_sI, St_sL, St_cpI, Nat.reduceEqDiff, Nat.reduceAdd, eq_self, false_and, and_false, true_and, and_true, and_self, if_true, if_false, false_or, or_false, true_or, or_true, not_true_eq_false, not_false_eq_true, reduceIte, K_66, F_66_0, F_66_10, F_66_11, F_66_12, F_66_13, F_66_14, F_66_15, F_66_16, F_66_17, F_66_18, F_66_25, F_66_26, F_66_27, F_66_28, F_66_29, F_66_30, F_66_31, F_66_32, F_66_33, F_66_34, F_66_35, F_66_36, F_66_37, F_66_38, F_66_39, F_66_60, F_66_61, F_66_62, F_66_63, F_66_66, F_66_68, F_66_69, F_66_71, F_66_72, F_66_73, F_66_74, F_66_77, F_66_78, F_66_79, F_66_80, F_66_81, F_66_84, F_66_85, F_66_86, F_66_87, hS1, hu1, z]
      exact g3
    · rw [w1, if_pos rfl]
    · rw [if_pos rfl]
      intro k hk
      show gI h3 95 (j * 32 + k) = _
      rw [w3]
      unfold cpw
      by_cases d : j = 39
      · simp only [d, if_true]
        rw [if_pos (by omega)]
        have : gI (sI h1 66 64 39) 94 (39 * 32 + k - 32 * 39) = gI h 94 (39 * 32 + k - 32 * 39) := s2.I rfl
        rw [this, show 39 * 32 + k - 32 * 39 = k by omega]; rfl
      · simp only [d, if_false]
        rw [if_neg (by omega)]
        have : gI (sI h1 66 64 39) 95 (j * 32 + k) = gI h1 95 (j * 32 + k) := by simp only [kd_sI, ln_sI, hl_sI, gL_sI, gR_sI, kd_sL, ln_sL, hl_sL, gI_sL, gR_sL, kd_sR, ln_sR, hl_sR, gI_sR, gL_sR, kd_cpI, ln_cpI, hl_cpI, gL_cpI, gR_cpI, gI_cpI, gI_sI, gL_sL, gR_sR, St_sI, St_sL, St_cpI, Nat.reduceEqDiff, Nat.reduceAdd, eq_self, false_and, and_false, true_and, and_true, and_self, if_true, if_false, false_or, or_false, true_or, or_true, not_true_eq_false, not_false_eq_true, reduceIte]
        rw [this, v1]
        unfold shw
        rw [if_pos (by omega), show 32 + (j * 32 + k) = (j + 1) * 32 + k by omega]; rfl
  · obtain ⟨h3, g3, s3, w1, w2, w3⟩ := lp_Mo_act hS hu (by omega) 27 0 _ (by omega) (Sm.rf _ _) (fun y => by unfold cpw; rw [if_neg (by omega)])
    refine ⟨h3, ?_, s3, ?_, w2, fun j hj => ?_⟩
    · rw [C_277 66  μ _ (K_66 hS) (by decide) hμ]
      simp (disch := first | assumption | exact b2i_01 _ | decide | omega | (simp only [kd_sI, ln_sI, hl_sI, gL_sI, gR_sI, kd_sL, ln_sL, hl_sL, gI_sL, gR_sL, kd_sR, ln_sR, hl_sR, gI_sR, gL_sR, kd_cpI, ln_cpI, hl_cpI, gL_cpI, gR_cpI, gI_cpI, gI_sI, gL_sL, gR_sR, St_sI, St_sL, St_cpI, Nat.reduceEqDiff, Nat.reduceAdd, eq_self, false_and, and_false, true_and, and_true, and_self, if_true, if_false, false_or, or_false, true_or, or_true, not_true_eq_false, not_false_eq_true, reduceIte, K_66, F_66_0, F_66_10, F_66_11, F_66_12, F_66_13, F_66_14, F_66_15, F_66_16, F_66_17, F_66_18, F_66_25, F_66_26, F_66_27, F_66_28, F_66_29, F_66_30, F_66_31, F_66_32, F_66_33, F_66_34, F_66_35, F_66_36, F_66_37, F_66_38, F_66_39, F_66_60, F_66_61, F_66_62, F_66_63, F_66_66, F_66_68, F_66_69, F_66_71, F_66_72, F_66_73, F_66_74, F_66_77, F_66_78, F_66_79, F_66_80, F_66_81, F_66_84, F_66_85, F_66_86, F_66_87, hS, hu, e40, c] <;> first | done | decide | omega | fail) | fail) only [B_277_0, e_aload_n_0, G_1264, e_bipush_40, e_ic_ne, e_iconst_0, e_istore_n_1, clr_i, clr_l, clr_a, clr_n, e_gotow, T_277_11, e_iload_n_1, e_sipush_1248, e_ic_ge, G_1263, e_bipush_32, e_iadd, e_iaload, e_iastore, e_iinc_1_1, e_goto, T_277_39, e_dup_i, e_dup_a, e_iconst_1, e_isub, P_1264, T_277_49, B_277_49, T_277_51, e_bipush_27, e_imul, G_1262, T_277_83, B_277_83, P_1265, R_277, kd_sI, ln_sI, hl_sI, gL_sI, gR_sI, kd_sL, ln_sL, hl_sL, gI_sL, gR_sL, kd_sR, ln_sR, hl_sR, gI_sR, gL_sR, kd_cpI, ln_cpI, hl_cpI, gL_cpI, gR_cpI, gI_cpI, gI_sI, gL_sL, gR_sR, St_sI, St_sL, St_cpI, Nat.reduceEqDiff, Nat.reduceAdd, eq_self, false_and, and_false, true_and, and_true, and_self, if_true, if_false, false_or, or_false, true_or, or_true, not_true_eq_false, not_false_eq_true, reduceIte, K_66, F_66_0, F_66_10, F_66_11, F_66_12, F_66_13, F_66_14, F_66_15, F_66_16, F_66_17, F_66_18, F_66_25, F_66_26, F_66_27, F_66_28, F_66_29, F_66_30, F_66_31, F_66_32, F_66_33, F_66_34, F_66_35, F_66_36, F_66_37, F_66_38, F_66_39, F_66_60, F_66_61, F_66_62, F_66_63, F_66_66, F_66_68, F_66_69, F_66_71, F_66_72, F_66_73, F_66_74, F_66_77, F_66_78, F_66_79, F_66_80, F_66_81, F_66_84, F_66_85, F_66_86, F_66_87, hu, e40, c]
      exact g3
    · rw [w1, if_neg c]
    · rw [if_neg c]
      intro k hk
      show gI h3 95 (j * 32 + k) = _
      rw [w3]
      unfold cpw
      by_cases d : j = u
      · simp only [d, if_true]
        rw [if_pos (by omega), show u * 32 + k - 32 * u = k by omega]; rfl
      · simp only [d, if_false]
        rw [if_neg (by omega)]; rfl
/-- two rows exchanged -/
theorem lp_Mo_exch {h0 : MH} {a : Nat} (hS0 : St h0) (ha : a < 40) : ∀ m i h (l3 : Option Value), i + m = 27 → Sm h0 h [(94, none), (95, none)] → (∀ y, gI h 95 y = cpw (gI h0 94) (gI h0 95) (32 * a) i y) → (∀ y, gI h 94 y = cpw (fun k => gI h0 95 (32 * a + k)) (gI h0 94) 0 i y) → ∃ h', rn 284 3 B_284_2 [some (.ref 66), some (.int (nI (32 * a))), some (.int (nI i)), l3] [] h = some (none, h') ∧ Sm h0 h' [(94, none), (95, none)] ∧ (∀ y, gI h' 95 y = cpw (gI h0 94) (gI h0 95) (32 * a) 27 y) ∧ ∀ y, gI h' 94 y = cpw (fun k => gI h0 95 (32 * a + k)) (gI h0 94) 0 27 y := by
  intro m
  induction m with
  | zero =>
    intro i h l3 hi s e1 e2
    obtain rfl : i = 27 := by omega
    have hS : St h := s.St hS0 (by decide +kernel)
    refine ⟨h, ?_, s, e1, e2⟩
    rw [B_284_2]
    simp (disch := first | assumption | exact b2i_01 _ | decide | omega | (simp only [kd_sI, ln_sI, hl_sI, gL_sI, gR_sI, kd_sL, ln_sL, hl_sL, gI_sL, gR_sL, kd_sR, ln_sR, hl_sR, gI_sR, gL_sR, kd_cpI, ln_cpI, hl_cpI, gL_cpI, gR_cpI, gI_cpI, gI_sI, gL_sL, gR_sR, St_sI, St_sL, St_cpI, Nat.reduceEqDiff, Nat.reduceAdd, eq_self, false_and, and_false, true_and, and_true, and_self, if_true, if_false, false_or, or_false, true_or, or_true, not_true_eq_false, not_false_eq_true, reduceIte, K_66, F_66_0, F_66_10, F_66_11, F_66_12, F_66_13, F_66_14, F_66_15, F_66_16, F_66_17, F_66_18, F_66_25, F_66_26, F_66_27, F_66_28, F_66_29, F_66_30, F_66_31, F_66_32, F_66_33, F_66_34, F_66_35, F_66_36, F_66_37, F_66_38, F_66_39, F_66_60, F_66_61, F_66_62, F_66_63, F_66_66, F_66_68, F_66_69, F_66_71, F_66_72, F_66_73, F_66_74, F_66_77, F_66_78, F_66_79, F_66_80, F_66_81, F_66_84, F_66_85, F_66_86, F_66_87, hS, (eq_true (by simp (disch := omega) only [nI_lit, nI_add, lt_nI, le_nI, eq_nI] <;> omega) : ((27 : Int32) ≤ nI 27) = True)] <;> first | done | decide | omega | fail) | fail) only [B_284_0, e_iconst_0, e_istore_n_2, clr_i, clr_l, clr_a, clr_n, e_gotow, T_284_2, e_iload_n_2, e_bipush_27, e_ic_ge, e_aload_n_0, G_1263, e_iload_n_1, e_iadd, e_iaload, e_istore_n_3, G_1262, e_iastore, e_iload_n_3, e_iinc_2_1, e_goto, T_284_44, B_284_44, R_284, kd_sI, ln_sI, hl_sI, gL_sI, gR_sI, kd_sL, ln_sL, hl_sL, gI_sL, gR_sL, kd_sR, ln_sR, hl_sR, gI_sR, gL_sR, kd_cpI, ln_cpI, hl_cpI, gL_cpI, gR_cpI, gI_cpI, gI_sI, gL_sL, gR_sR, St_sI, St_sL, St_cpI, Nat.reduceEqDiff, Nat.reduceAdd, eq_self, false_and, and_false, true_and, and_true, and_self, if_true, if_false, false_or, or_false, true_or, or_true, not_true_eq_false, not_false_eq_true, reduceIte, K_66, F_66_0, F_66_10, F_66_11, F_66_12, F_66_13, F_66_14, F_66_15, F_66_16, F_66_17, F_66_18, F_66_25, F_66_26, F_66_27, F_66_28, F_66_29, F_66_30, F_66_31, F_66_32, F_66_33, F_66_34, F_66_35, F_66_36, F_66_37, F_66_38, F_66_39, F_66_60, F_66_61, F_66_62, F_66_63, F_66_66, F_66_68, F_66_69, F_66_71, F_66_72, F_66_73, F_66_74, F_66_77, F_66_78, F_66_79, F_66_80, F_66_81, F_66_84, F_66_85, F_66_86, F_66_87, (eq_true (by simp (disch := omega) only [nI_lit, nI_add, lt_nI, le_nI, eq_nI] <;> omega) : ((27 : Int32) ≤ nI 27) = True)]
  | succ m ih =>
    intro i h l3 hi s e1 e2
    have hS : St h := s.St hS0 (by decide +kernel)
    have v1 : gI h 95 (32 * a + i) = gI h0 95 (32 * a + i) := by
      rw [e1]; unfold cpw; rw [if_neg (by omega)]
    have v2 : gI h 94 i = gI h0 94 i := by
      rw [e2]; unfold cpw; rw [if_neg (by omega)]
    have c1 := cpw_s e1
    have c2 := cpw_s e2
    obtain ⟨h', g, q⟩ := ih (i + 1) (sI (sI h 95 (32 * a + i) (gI h0 94 i)) 94 i (gI h0 95 (32 * a + i))) (some (.int (gI h0 95 (32 * a + i)))) (by omega) ((s.sI rfl).sI rfl) (fun y => by rw [gI_sI, if_neg (by omega)]; exact c1 y) (fun y => by
      have := c2 y
      rw [gI_sI, Nat.zero_add] at this
      rw [gI_sI, gI_sI, if_neg (show ¬ (94 = 95 ∧ y = 32 * a + i) by omega)]
      exact this)
    refine ⟨h', ?_, q⟩
    have e32 : nI (32 * a) + nI i = nI (32 * a + i) := nI_add _ _
    have b1 : inBd (nI (32 * a + i)) 1280 = true := inBd_nI (by omega) (by omega)
    have t1 := tc_nI (show 32 * a + i < 2147483648 by omega)
    have b2 : inBd (nI i) 32 = true := inBd_nI (by omega) (by omega)
    have t2 := tc_nI (show i < 2147483648 by omega)
    rw [B_284_2]
    simp (disch := first | assumption | exact b2i_01 _ | decide | omega | (simp only [kd_sI, ln_sI, hl_sI, gL_sI, gR_sI, kd_sL, ln_sL, hl_sL, gI_sL, gR_sL, kd_sR, ln_sR, hl_sR, gI_sR, gL_sR, kd_cpI, ln_cpI, hl_cpI, gL_cpI, gR_cpI, gI_cpI, gI_sI, gL_sL, gR_sR, St_sI, St_sL, St_cpI, Nat.reduceEqDiff, Nat.reduceAdd, eq_self, false_and, and_false, true_and, and_true, and_self, if_true, if_false, false_or, or_false, true_or, or_true, not_true_eq_false, not_false_eq_true, reduceIte, K_66, F_66_0, F_66_10, F_66_11, F_66_12, F_66_13, F_66_14, F_66_15, F_66_16, F_66_17, F_66_18, F_66_25, F_66_26, F_66_27, F_66_28, F_66_29, F_66_30, F_66_31, F_66_32, F_66_33, F_66_34, F_66_35, F_66_36, F_66_37, F_66_38, F_66_39, F_66_60, F_66_61, F_66_62, F_66_63, F_66_66, F_66_68, F_66_69, F_66_71, F_66_72, F_66_73, F_66_74, F_66_77, F_66_78, F_66_79, F_66_80, F_66_81, F_66_84, F_66_85, F_66_86, F_66_87, K_94, N_94, K_95, N_95, hS, (eq_false (by simp (disch := omega) only [nI_lit, nI_add, lt_nI, le_nI, eq_nI] <;> omega) : ((27 : Int32) ≤ nI i) = False), e32, b1, t1, b2, t2, v1, v2, nI_1, g] <;> first | done | decide | omega | fail) | fail) only [B_284_0, e_iconst_0, e_istore_n_2, clr_i, clr_l, clr_a, clr_n, e_gotow, T_284_2, e_iload_n_2, e_bipush_27, e_ic_ge, e_aload_n_0, G_1263, e_iload_n_1, e_iadd, e_iaload, e_istore_n_3, G_1262, e_iastore, e_iload_n_3, e_iinc_2_1, e_goto, T_284_44, B_284_44, R_284, kd_sI, ln_sI, hl_sI, gL_sI, gR_sI, kd_sL, ln_sL, hl_sL, gI_sL, gR_sL, kd_sR, ln_sR, hl_sR, gI_sR, gL_sR, kd_cpI, ln_cpI, hl_cpI, gL_cpI, gR_cpI, gI_cpI, gI_sI, gL_sL, gR_sR, St_sI, St_sL, St_cpI, Nat.reduceEqDiff, Nat.reduceAdd, eq_self, false_and, and_false, true_and, and_true, and_self, if_true, if_false, false_or, or_false, true_or, or_true, not_true_eq_false, not_false_eq_true, reduceIte, K_66, F_66_0, F_66_10, F_66_11, F_66_12, F_66_13, F_66_14, F_66_15, F_66_16, F_66_17, F_66_18, F_66_25, F_66_26, F_66_27, F_66_28, F_66_29, F_66_30, F_66_31, F_66_32, F_66_33, F_66_34, F_66_35, F_66_36, F_66_37, F_66_38, F_66_39, F_66_60, F_66_61, F_66_62, F_66_63, F_66_66, F_66_68, F_66_69, F_66_71, F_66_72, F_66_73, F_66_74, F_66_77, F_66_78, F_66_79, F_66_80, F_66_81, F_66_84, F_66_85, F_66_86, F_66_87, K_94, N_94, K_95, N_95, (eq_false (by simp (disch := omega) only [nI_lit, nI_add, lt_nI, le_nI, eq_nI] <;> omega) : ((27 : Int32) ≤ nI i) = False), e32, b1, t1, b2, t2, v1, v2, nI_1, g]
theorem s_Mo_exch {h : MH} {a μ : Nat} (hS : St h) (ha : a < 40) (hμ : 3 < μ) : ∃ h', cal 284 [.ref 66, .int (nI (32 * a))] μ h = some (none, h') ∧ Sm h h' [(94, none), (95, none)] ∧ Eq27 (rowM h') (rowW h a) ∧ ∀ j, j < 40 → Eq27 (rowW h' j) (if j = a then rowM h else rowW h j) := by
  obtain ⟨h', g, s, e1, e2⟩ := lp_Mo_exch hS ha 27 0 h none (by omega) (Sm.rf h _) (fun y => by unfold cpw; rw [if_neg (by omega)]) (fun y => by unfold cpw; rw [if_neg (by omega)])
  refine ⟨h', ?_, s, fun k hk => ?_, fun j hj k hk => ?_⟩
  · rw [C_284 66 _ μ _ (K_66 hS) (by decide) hμ]
    simp (disch := first | assumption | exact b2i_01 _ | decide | omega | (simp only [kd_sI, ln_sI, hl_sI, gL_sI, gR_sI, kd_sL, ln_sL, hl_sL, gI_sL, gR_sL, kd_sR, ln_sR, hl_sR, gI_sR, gL_sR, kd_cpI, ln_cpI, hl_cpI, gL_cpI, gR_cpI, gI_cpI, gI_sI, gL_sL, gR_sR, St_sI, St_sL, St_cpI, Nat.reduceEqDiff, Nat.reduceAdd, eq_self, false_and, and_false, true_and, and_true, and_self, if_true, if_false, false_or, or_false, true_or, or_true, not_true_eq_false, not_false_eq_true, reduceIte, K_66, F_66_0, F_66_10, F_66_11, F_66_12, F_66_13, F_66_14, F_66_15, F_66_16, F_66_17, F_66_18, F_66_25, F_66_26, F_66_27, F_66_28, F_66_29, F_66_30, F_66_31, F_66_32, F_66_33, F_66_34, F_66_35, F_66_36, F_66_37, F_66_38, F_66_39, F_66_60, F_66_61, F_66_62, F_66_63, F_66_66, F_66_68, F_66_69, F_66_71, F_66_72, F_66_73, F_66_74, F_66_77, F_66_78, F_66_79, F_66_80, F_66_81, F_66_84, F_66_85, F_66_86, F_66_87, hS] <;> first | done | decide | omega | fail) | fail) only [B_284_0, e_iconst_0, e_istore_n_2, clr_i, clr_l, clr_a, clr_n, e_gotow, T_284_2, e_iload_n_2, e_bipush_27, e_ic_ge, e_aload_n_0, G_1263, e_iload_n_1, e_iadd, e_iaload, e_istore_n_3, G_1262, e_iastore, e_iload_n_3, e_iinc_2_1, e_goto, T_284_44, B_284_44, R_284, kd_sI, ln_sI, hl_sI, gL_sI, gR_sI, kd_sL, ln_sL, hl_sL, gI_sL, gR_sL, kd_sR, ln_sR, hl_sR, gI_sR, gL_sR, kd_cpI, ln_cpI, hl_cpI, gL_cpI, gR_cpI, gI_cpI, gI_sI, gL_sL, gR_sR, St_sI, St_sL, St_cpI, Nat.reduceEqDiff, Nat.reduceAdd, eq_self, false_and, and_false, true_and, and_true, and_self, if_true, if_false, false_or, or_false, true_or, or_true, not_true_eq_false, not_false_eq_true, reduceIte, K_66, F_66_0, F_66_10, F_66_11, F_66_12, F_66_13, F_66_14, F_66_15, F_66_16, F_66_17, F_66_18, F_66_25, F_66_26, F_66_27, F_66_28, F_66_29, F_66_30, F_66_31, F_66_32, F_66_33, F_66_34, F_66_35, F_66_36, F_66_37, F_66_38, F_66_39, F_66_60, F_66_61, F_66_62, F_66_63, F_66_66, F_66_68, F_66_69, F_66_71, F_66_72, F_66_73, F_66_74, F_66_77, F_66_78, F_66_79, F_66_80, F_66_81, F_66_84, F_66_85, F_66_86, F_66_87]
    exact g
  · show gI h' 94 k = gI h 95 (a * 32 + k)
    rw [e2]; unfold cpw; rw [if_pos (by omega)]
    show gI h 95 (32 * a + (k - 0)) = _
    rw [show 32 * a + (k - 0) = a * 32 + k by omega]
  · show gI h' 95 (j * 32 + k) = _
    rw [e1]; unfold cpw
    by_cases d : j = a
    · rw [if_pos (by omega), if_pos d, d, show a * 32 + k - 32 * a = k by omega]; rfl
    · rw [if_neg (by omega), if_neg d]; rfl
