/-! a storm: that one whose place by number is told -/
def cb (n : Nat) : Nat → Nat
  | 0 => 0
  | c + 1 => if n.testBit c = true then cb n c + 1 else cb n c
theorem cb_s {n c : Nat} : cb n (c + 1) = if n.testBit c = true then cb n c + 1 else cb n c := rfl
theorem cb_le {n : Nat} : ∀ c, cb n c ≤ c
  | 0 => Nat.le_refl _
  | c + 1 => by
    unfold cb
    have := cb_le (n := n) c
    split <;> omega
theorem cb_mono {n c : Nat} : ∀ d, cb n c ≤ cb n (c + d)
  | 0 => Nat.le_refl _
  | d + 1 => by
    have := cb_mono (n := n) (c := c) d
    rw [show c + (d + 1) = c + d + 1 from rfl, cb_s]
    split <;> omega
theorem bit_n {n c : Nat} (hc : c < 31) : bit (nI n) c = if n.testBit c = true then 1 else 0 := by
  rw [bit_tb _ (by omega), tbt_nI, decide_eq_true (show c < 32 by omega), Bool.true_and]
  cases n.testBit c <;> rfl
theorem smf_cb {n : Nat} : ∀ c, c ≤ 12 → smf (fun c => bit (nI n) c) c = nI (cb n c)
  | 0, _ => rfl
  | c + 1, hc => by
    show smf _ c + bit (nI n) c = _
    rw [smf_cb c (by omega), bit_n (by omega), cb_s]
    split
    · rw [nI_1]
    · rw [Int32.add_zero]
theorem pcn_cb {n : Nat} (hn : n < 4096) : pcn (nI n) = nI (cb n 12) := by
  rw [← pcn_sm hn, smf_cb 12 (by omega)]
/-- the member of a set at a place -/
def mem (n q : Nat) : Nat → Nat → Nat
  | _, 0 => 12
  | c, m + 1 => if n.testBit c = true ∧ cb n c = q then c else mem n q (c + 1) m
theorem mem_ok {n q : Nat} (hq : q < cb n 12) : ∀ m c, c + m = 12 → cb n c ≤ q → mem n q c m < 12 ∧ n.testBit (mem n q c m) = true
  | 0, c, hc, h => by
    obtain rfl : c = 12 := by omega
    omega
  | m + 1, c, hc, h => by
    unfold mem
    by_cases d : n.testBit c = true ∧ cb n c = q
    · rw [if_pos d]; exact ⟨by omega, d.1⟩
    · rw [if_neg d]
      refine mem_ok hq m (c + 1) (by omega) ?_
      unfold cb
      split
      · rename_i z
        have : ¬ cb n c = q := fun w => d ⟨z, w⟩
        omega
      · exact h
theorem lp_Sn_memberAt {h : MH} {n q : Nat} (hn : n < 4096) (hq : q < cb n 12) : ∀ m c, c + m = 12 → cb n c ≤ q → rn 136 3 B_136_4 [some (.int (nI n)), some (.int (nI q)), some (.int (nI (cb n c))), some (.int (nI c))] [] h = some (some (.int (nI (mem n q c m))), h) := by
  have q12 := cb_le (n := n) 12
  intro m
  induction m with
  | zero =>
    intro c hc h1
    obtain rfl : c = 12 := by omega
    omega
  | succ m ih =>
    intro c hc h1
    have bt := bit_n (n := n) (c := c) (by omega)
    have eqq := eq_nI (a := cb n c) (b := q) (by omega) (by omega)
    have e10 : ((1 : Int32) = 0) = False := by simp
    unfold bit at bt
    rw [B_136_4]
    by_cases d1 : n.testBit c = true
    · rw [if_pos d1] at bt
      by_cases d2 : cb n c = q
      · rw [show mem n q c (m + 1) = c from if_pos ⟨d1, d2⟩]
        simp (disch := first | assumption | exact b2i_01 _ | decide | omega | (simp only [kd_sI, ln_sI, hl_sI, gL_sI, gR_sI, kd_sL, ln_sL, hl_sL, gI_sL, gR_sL, kd_sR, ln_sR, hl_sR, gI_sR, gL_sR, kd_cpI, ln_cpI, hl_cpI, gL_cpI, gR_cpI, gI_cpI, gI_sI, gL_sL, gR_sR, St_sI, St_sL, St_cpI, Nat.reduceEqDiff, Nat.reduceAdd, eq_self, false_and, and_false, true_and, and_true, and_self, if_true, if_false, false_or, or_false, true_or, or_true, not_true_eq_false, not_false_eq_true, reduceIte, K_66, F_66_0, F_66_10, F_66_11, F_66_12, F_66_13, F_66_14, F_66_15, F_66_16, F_66_17, F_66_18, F_66_25, F_66_26, F_66_27, F_66_28, F_66_29, F_66_30, F_66_31, F_66_32, F_66_33, F_66_34, F_66_35, F_66_36, F_66_37, F_66_38, F_66_39, F_66_60, F_66_61, F_66_62, F_66_63, F_66_66, F_66_68, F_66_69, F_66_71, F_66_72, F_66_73, F_66_74, F_66_77, F_66_78, F_66_79, F_66_80, F_66_81, F_66_84, F_66_85, F_66_86, F_66_87, hS, (eq_false (by simp (disch := omega) only [nI_lit, nI_add, lt_nI, le_nI, eq_nI] <;> omega) : ((12 : Int32) ≤ nI c) = False), bt, e10, eqq, d2] <;> first | done | decide | omega | fail) | fail) only [B_136_0, e_iconst_0, e_istore_n_2, clr_i, clr_l, clr_a, clr_n, e_istore_n_3, e_gotow, T_136_4, e_iload_n_3, e_bipush_12, e_ic_ge, e_iload_n_0, e_ishr, e_iconst_1, e_iand, e_if_eq, e_iload_n_2, e_iload_n_1, e_ic_ne, R_136, T_136_25, B_136_25, e_iinc_2_1, T_136_28, B_136_28, e_iinc_3_1, e_goto, T_136_34, B_136_34, e_iconst_m1, kd_sI, ln_sI, hl_sI, gL_sI, gR_sI, kd_sL, ln_sL, hl_sL, gI_sL, gR_sL, kd_sR, ln_sR, hl_sR, gI_sR, gL_sR, kd_cpI, ln_cpI, hl_cpI, gL_cpI, gR_cpI, gI_cpI, gI_sI, gL_sL, gR_sR, St_sI, St_sL, St_cpI, Nat.reduceEqDiff, Nat.reduceAdd, eq_self, false_and, and_false, true_and, and_true, and_self, if_true, if_false, false_or, or_false, true_or, or_true, not_true_eq_false, not_false_eq_true, reduceIte, K_66, F_66_0, F_66_10, F_66_11, F_66_12, F_66_13, F_66_14, F_66_15, F_66_16, F_66_17, F_66_18, F_66_25, F_66_26, F_66_27, F_66_28, F_66_29, F_66_30, F_66_31, F_66_32, F_66_33, F_66_34, F_66_35, F_66_36, F_66_37, F_66_38, F_66_39, F_66_60, F_66_61, F_66_62, F_66_63, F_66_66, F_66_68, F_66_69, F_66_71, F_66_72, F_66_73, F_66_74, F_66_77, F_66_78, F_66_79, F_66_80, F_66_81, F_66_84, F_66_85, F_66_86, F_66_87, (eq_false (by simp (disch := omega) only [nI_lit, nI_add, lt_nI, le_nI, eq_nI] <;> omega) : ((12 : Int32) ≤ nI c) = False), bt, e10, eqq, d2]
      · have g := ih (c + 1) (by omega) (by unfold cb; rw [if_pos d1]; omega)
        rw [show cb n (c + 1) = cb n c + 1 from if_pos d1] at g
        rw [show mem n q c (m + 1) = mem n q (c + 1) m from if_neg (fun z => d2 z.2)]
        simp (disch := first | assumption | exact b2i_01 _ | decide | omega | (simp only [kd_sI, ln_sI, hl_sI, gL_sI, gR_sI, kd_sL, ln_sL, hl_sL, gI_sL, gR_sL, kd_sR, ln_sR, hl_sR, gI_sR, gL_sR, kd_cpI, ln_cpI, hl_cpI, gL_cpI, gR_cpI, gI_cpI, gI_sI, gL_sL, gR_sR, St_sI, St_sL, St_cpI, Nat.reduceEqDiff, Nat.reduceAdd, eq_self, false_and, and_false, true_and, and_true, and_self, if_true, if_false, false_or, or_false, true_or, or_true, not_true_eq_false, not_false_eq_true, reduceIte, K_66, F_66_0, F_66_10, F_66_11, F_66_12, F_66_13, F_66_14, F_66_15, F_66_16, F_66_17, F_66_18, F_66_25, F_66_26, F_66_27, F_66_28, F_66_29, F_66_30, F_66_31, F_66_32, F_66_33, F_66_34, F_66_35, F_66_36, F_66_37, F_66_38, F_66_39, F_66_60, F_66_61, F_66_62, F_66_63, F_66_66, F_66_68, F_66_69, F_66_71, F_66_72, F_66_73, F_66_74, F_66_77, F_66_78, F_66_79, F_66_80, F_66_81, F_66_84, F_66_85, F_66_86, F_66_87, hS, (eq_false (by simp (disch := omega) only [nI_lit, nI_add, lt_nI, le_nI, eq_nI] <;> omega) : ((12 : Int32) ≤ nI c) = False), bt, e10, eqq, d2, nI_1, g] <;> first | done | decide | omega | fail) | fail) only [B_136_0, e_iconst_0, e_istore_n_2, clr_i, clr_l, clr_a, clr_n, e_istore_n_3, e_gotow, T_136_4, e_iload_n_3, e_bipush_12, e_ic_ge, e_iload_n_0, e_ishr, e_iconst_1, e_iand, e_if_eq, e_iload_n_2, e_iload_n_1, e_ic_ne, R_136, T_136_25, B_136_25, e_iinc_2_1, T_136_28, B_136_28, e_iinc_3_1, e_goto, T_136_34, B_136_34, e_iconst_m1, kd_sI, ln_sI, hl_sI, gL_sI, gR_sI, kd_sL, ln_sL, hl_sL, gI_sL, gR_sL, kd_sR, ln_sR, hl_sR, gI_sR, gL_sR, kd_cpI, ln_cpI, hl_cpI, gL_cpI, gR_cpI, gI_cpI, gI_sI, gL_sL, gR_sR, St_sI, St_sL, St_cpI, Nat.reduceEqDiff, Nat.reduceAdd, eq_self, false_and, and_false, true_and, and_true, and_self, if_true, if_false, false_or, or_false, true_or, or_true, not_true_eq_false, not_false_eq_true, reduceIte, K_66, F_66_0, F_66_10, F_66_11, F_66_12, F_66_13, F_66_14, F_66_15, F_66_16, F_66_17, F_66_18, F_66_25, F_66_26, F_66_27, F_66_28, F_66_29, F_66_30, F_66_31, F_66_32, F_66_33, F_66_34, F_66_35, F_66_36, F_66_37, F_66_38, F_66_39, F_66_60, F_66_61, F_66_62, F_66_63, F_66_66, F_66_68, F_66_69, F_66_71, F_66_72, F_66_73, F_66_74, F_66_77, F_66_78, F_66_79, F_66_80, F_66_81, F_66_84, F_66_85, F_66_86, F_66_87, (eq_false (by simp (disch := omega) only [nI_lit, nI_add, lt_nI, le_nI, eq_nI] <;> omega) : ((12 : Int32) ≤ nI c) = False), bt, e10, eqq, d2, nI_1, g]
    · rw [if_neg d1] at bt
      have g := ih (c + 1) (by omega) (by unfold cb; rw [if_neg d1]; exact h1)
      rw [show cb n (c + 1) = cb n c from if_neg d1] at g
      rw [show mem n q c (m + 1) = mem n q (c + 1) m from if_neg (fun z => d1 z.1)]
      simp (disch := first | assumption | exact b2i_01 _ | decide | omega | (simp only [kd_sI, ln_sI, hl_sI, gL_sI, gR_sI, kd_sL, ln_sL, hl_sL, gI_sL, gR_sL, kd_sR, ln_sR, hl_sR, gI_sR, gL_sR, kd_cpI, ln_cpI, hl_cpI, gL_cpI, gR_cpI, gI_cpI, gI_sI, gL_sL, gR_sR, St_sI, St_sL, St_cpI, Nat.reduceEqDiff, Nat.reduceAdd, eq_self, false_and, and_false, true_and, and_true, and_self, if_true, if_false, false_or, or_false, true_or, or_true, not_true_eq_false, not_false_eq_true, reduceIte, K_66, F_66_0, F_66_10, F_66_11, F_66_12, F_66_13, F_66_14, F_66_15, F_66_16, F_66_17, F_66_18, F_66_25, F_66_26, F_66_27, F_66_28, F_66_29, F_66_30, F_66_31, F_66_32, F_66_33, F_66_34, F_66_35, F_66_36, F_66_37, F_66_38, F_66_39, F_66_60, F_66_61, F_66_62, F_66_63, F_66_66, F_66_68, F_66_69, F_66_71, F_66_72, F_66_73, F_66_74, F_66_77, F_66_78, F_66_79, F_66_80, F_66_81, F_66_84, F_66_85, F_66_86, F_66_87, hS, (eq_false (by simp (disch := omega) only [nI_lit, nI_add, lt_nI, le_nI, eq_nI] <;> omega) : ((12 : Int32) ≤ nI c) = False), bt, nI_1, g] <;> first | done | decide | omega | fail) | fail) only [B_136_0, e_iconst_0, e_istore_n_2, clr_i, clr_l, clr_a, clr_n, e_istore_n_3, e_gotow, T_136_4, e_iload_n_3, e_bipush_12, e_ic_ge, e_iload_n_0, e_ishr, e_iconst_1, e_iand, e_if_eq, e_iload_n_2, e_iload_n_1, e_ic_ne, R_136, T_136_25, B_136_25, e_iinc_2_1, T_136_28, B_136_28, e_iinc_3_1, e_goto, T_136_34, B_136_34, e_iconst_m1, kd_sI, ln_sI, hl_sI, gL_sI, gR_sI, kd_sL, ln_sL, hl_sL, gI_sL, gR_sL, kd_sR, ln_sR, hl_sR, gI_sR, gL_sR, kd_cpI, ln_cpI, hl_cpI, gL_cpI, gR_cpI, gI_cpI, gI_sI, gL_sL, gR_sR, St_sI, St_sL, St_cpI, Nat.reduceEqDiff, Nat.reduceAdd, eq_self, false_and, and_false, true_and, and_true, and_self, if_true, if_false, false_or, or_false, true_or, or_true, not_true_eq_false, not_false_eq_true, reduceIte, K_66, F_66_0, F_66_10, F_66_11, F_66_12, F_66_13, F_66_14, F_66_15, F_66_16, F_66_17, F_66_18, F_66_25, F_66_26, F_66_27, F_66_28, F_66_29, F_66_30, F_66_31, F_66_32, F_66_33, F_66_34, F_66_35, F_66_36, F_66_37, F_66_38, F_66_39, F_66_60, F_66_61, F_66_62, F_66_63, F_66_66, F_66_68, F_66_69, F_66_71, F_66_72, F_66_73, F_66_74, F_66_77, F_66_78, F_66_79, F_66_80, F_66_81, F_66_84, F_66_85, F_66_86, F_66_87, (eq_false (by simp (disch := omega) only [nI_lit, nI_add, lt_nI, le_nI, eq_nI] <;> omega) : ((12 : Int32) ≤ nI c) = False), bt, nI_1, g]
theorem s_Sn_memberAt {h : MH} {n q μ : Nat} (hn : n < 4096) (hq : q < cb n 12) (hμ : 3 < μ) : cal 136 [.int (nI n), .int (nI q)] μ h = some (some (.int (nI (mem n q 0 12))), h) := by
  have g := lp_Sn_memberAt (h := h) hn hq 12 0 (by omega) (Nat.zero_le _)
  rw [C_136 _ _ μ h hμ]
  simp (disch := first | assumption | exact b2i_01 _ | decide | omega | (simp only [kd_sI, ln_sI, hl_sI, gL_sI, gR_sI, kd_sL, ln_sL, hl_sL, gI_sL, gR_sL, kd_sR, ln_sR, hl_sR, gI_sR, gL_sR, kd_cpI, ln_cpI, hl_cpI, gL_cpI, gR_cpI, gI_cpI, gI_sI, gL_sL, gR_sR, St_sI, St_sL, St_cpI, Nat.reduceEqDiff, Nat.reduceAdd, eq_self, false_and, and_false, true_and, and_true, and_self, if_true, if_false, false_or, or_false, true_or, or_true, not_true_eq_false, not_false_eq_true, reduceIte, K_66, F_66_0, F_66_10, F_66_11, F_66_12, F_66_13, F_66_14, F_66_15, F_66_16, F_66_17, F_66_18, F_66_25, F_66_26, F_66_27, F_66_28, F_66_29, F_66_30, F_66_31, F_66_32, F_66_33, F_66_34, F_66_35, F_66_36, F_66_37, F_66_38, F_66_39, F_66_60, F_66_61, F_66_62, F_66_63, F_66_66, F_66_68, F_66_69, F_66_71, F_66_72, F_66_73, F_66_74, F_66_77, F_66_78, F_66_79, F_66_80, F_66_81, F_66_84, F_66_85, F_66_86, F_66_87, hS] <;> first | done | decide | omega | fail) | fail) only [B_136_0, e_iconst_0, e_istore_n_2, clr_i, clr_l, clr_a, clr_n, e_istore_n_3, e_gotow, T_136_4, e_iload_n_3, e_bipush_12, e_ic_ge, e_iload_n_0, e_ishr, e_iconst_1, e_iand, e_if_eq, e_iload_n_2, e_iload_n_1, e_ic_ne, R_136, T_136_25, B_136_25, e_iinc_2_1, T_136_28, B_136_28, e_iinc_3_1, e_goto, T_136_34, B_136_34, e_iconst_m1, kd_sI, ln_sI, hl_sI, gL_sI, gR_sI, kd_sL, ln_sL, hl_sL, gI_sL, gR_sL, kd_sR, ln_sR, hl_sR, gI_sR, gL_sR, kd_cpI, ln_cpI, hl_cpI, gL_cpI, gR_cpI, gI_cpI, gI_sI, gL_sL, gR_sR, St_sI, St_sL, St_cpI, Nat.reduceEqDiff, Nat.reduceAdd, eq_self, false_and, and_false, true_and, and_true, and_self, if_true, if_false, false_or, or_false, true_or, or_true, not_true_eq_false, not_false_eq_true, reduceIte, K_66, F_66_0, F_66_10, F_66_11, F_66_12, F_66_13, F_66_14, F_66_15, F_66_16, F_66_17, F_66_18, F_66_25, F_66_26, F_66_27, F_66_28, F_66_29, F_66_30, F_66_31, F_66_32, F_66_33, F_66_34, F_66_35, F_66_36, F_66_37, F_66_38, F_66_39, F_66_60, F_66_61, F_66_62, F_66_63, F_66_66, F_66_68, F_66_69, F_66_71, F_66_72, F_66_73, F_66_74, F_66_77, F_66_78, F_66_79, F_66_80, F_66_81, F_66_84, F_66_85, F_66_86, F_66_87]
  exact g
theorem lp_Mo_storm {h : MH} {n q : Nat} (hS : St h) (hn : n < 4096) (hn2 : gI h 94 2 = nI n) (hq : q < cb n 12) : ∀ m c, c + m = 12 → cb n c ≤ q → rn 281 4 B_281_57 [some (.ref 66), some (.int (nI (q - cb n c))), some (.int (nI c))] [] h = rn 281 4 B_281_91 [some (.ref 66), some (.int (nI 0)), some (.int (nI (mem n q c m)))] [] h := by
  have q12 := cb_le (n := n) 12
  intro m
  induction m with
  | zero =>
    intro c hc h1
    obtain rfl : c = 12 := by omega
    omega
  | succ m ih =>
    intro c hc h1
    have bt := bit_n (n := n) (c := c) (by omega)
    have f := s_Mo_isInside (μ := 4) (c := c) hS (by omega) (by omega)
    rw [show rowM h 2 = nI n from hn2] at f
    have e10 : ((1 : Int32) = 0) = False := by simp
    rw [B_281_57]
    by_cases d1 : n.testBit c = true
    · rw [if_pos d1] at bt
      have d : decide (¬ bit (nI n) c = 0) = true := decide_eq_true (by rw [bt]; decide)
      rw [d] at f
      by_cases d2 : cb n c = q
      · rw [show mem n q c (m + 1) = c from if_pos ⟨d1, d2⟩, d2, Nat.sub_self]
        have l0 : (nI 0 ≤ 0) = True := by decide
        simp (disch := first | assumption | exact b2i_01 _ | decide | omega | (simp only [kd_sI, ln_sI, hl_sI, gL_sI, gR_sI, kd_sL, ln_sL, hl_sL, gI_sL, gR_sL, kd_sR, ln_sR, hl_sR, gI_sR, gL_sR, kd_cpI, ln_cpI, hl_cpI, gL_cpI, gR_cpI, gI_cpI, gI_sI, gL_sL, gR_sR, St_sI, St_sL, St_cpI, Nat.reduceEqDiff, Nat.reduceAdd, eq_self, false_and, and_false, true_and, and_true, and_self, if_true, if_false, false_or, or_false, true_or, or_true, not_true_eq_false, not_false_eq_true, reduceIte, K_66, F_66_0, F_66_10, F_66_11, F_66_12, F_66_13, F_66_14, F_66_15, F_66_16, F_66_17, F_66_18, F_66_25, F_66_26, F_66_27, F_66_28, F_66_29, F_66_30, F_66_31, F_66_32, F_66_33, F_66_34, F_66_35, F_66_36, F_66_37, F_66_38, F_66_39, F_66_60, F_66_61, F_66_62, F_66_63, F_66_66, F_66_68, F_66_69, F_66_71, F_66_72, F_66_73, F_66_74, F_66_77, F_66_78, F_66_79, F_66_80, F_66_81, F_66_84, F_66_85, F_66_86, F_66_87, hS, f, l0, b2i_f, b2i_t, e10, decide_true, decide_false, List.length_nil, List.length_cons, Nat.zero_le] <;> first | done | decide | omega | fail) | fail) only [B_281_0, e_aload_n_0, e_call_1, psh_s, psh_n, Option.bind_some, G_1262, e_iconst_1, e_iaload, e_sipush_137, e_imul, e_bipush_71, e_iadd, e_sipush_1000, e_irem, e_iastore, e_iconst_2, e_if_ne, e_iconst_m1, R_281, T_281_38, B_281_38, e_istore_n_1, clr_i, clr_l, clr_a, clr_n, e_iconst_0, e_istore_n_2, e_gotow, T_281_57, e_iload_n_2, e_call_2, e_if_eq, e_iload_n_1, e_if_le, T_281_69, B_281_69, e_goto, T_281_82, B_281_82, T_281_83, B_281_83, e_isub, e_iinc_2_1, T_281_91, e_bipush_15, kd_sI, ln_sI, hl_sI, gL_sI, gR_sI, kd_sL, ln_sL, hl_sL, gI_sL, gR_sL, kd_sR, ln_sR, hl_sR, gI_sR, gL_sR, kd_cpI, ln_cpI, hl_cpI, gL_cpI, gR_cpI, gI_cpI, gI_sI, gL_sL, gR_sR, St_sI, St_sL, St_cpI, Nat.reduceEqDiff, Nat.reduceAdd, eq_self, false_and, and_false, true_and, and_true, and_self, if_true, if_false, false_or, or_false, true_or, or_true, not_true_eq_false, not_false_eq_true, reduceIte, K_66, F_66_0, F_66_10, F_66_11, F_66_12, F_66_13, F_66_14, F_66_15, F_66_16, F_66_17, F_66_18, F_66_25, F_66_26, F_66_27, F_66_28, F_66_29, F_66_30, F_66_31, F_66_32, F_66_33, F_66_34, F_66_35, F_66_36, F_66_37, F_66_38, F_66_39, F_66_60, F_66_61, F_66_62, F_66_63, F_66_66, F_66_68, F_66_69, F_66_71, F_66_72, F_66_73, F_66_74, F_66_77, F_66_78, F_66_79, F_66_80, F_66_81, F_66_84, F_66_85, F_66_86, F_66_87, f, l0, b2i_f, b2i_t, e10, decide_true, decide_false, List.length_nil, List.length_cons, Nat.zero_le]
      · have g := ih (c + 1) (by omega) (by unfold cb; rw [if_pos d1]; omega)
        rw [show cb n (c + 1) = cb n c + 1 from if_pos d1] at g
        rw [show mem n q c (m + 1) = mem n q (c + 1) m from if_neg (fun z => d2 z.2)]
        have l0 := nI_nle0 (a := q - cb n c) (by omega) (by omega)
        have s1 := sub1_nI (n := q - cb n c) (by omega)
        rw [show q - cb n c - 1 = q - (cb n c + 1) by omega] at s1
        simp (disch := first | assumption | exact b2i_01 _ | decide | omega | (simp only [kd_sI, ln_sI, hl_sI, gL_sI, gR_sI, kd_sL, ln_sL, hl_sL, gI_sL, gR_sL, kd_sR, ln_sR, hl_sR, gI_sR, gL_sR, kd_cpI, ln_cpI, hl_cpI, gL_cpI, gR_cpI, gI_cpI, gI_sI, gL_sL, gR_sR, St_sI, St_sL, St_cpI, Nat.reduceEqDiff, Nat.reduceAdd, eq_self, false_and, and_false, true_and, and_true, and_self, if_true, if_false, false_or, or_false, true_or, or_true, not_true_eq_false, not_false_eq_true, reduceIte, K_66, F_66_0, F_66_10, F_66_11, F_66_12, F_66_13, F_66_14, F_66_15, F_66_16, F_66_17, F_66_18, F_66_25, F_66_26, F_66_27, F_66_28, F_66_29, F_66_30, F_66_31, F_66_32, F_66_33, F_66_34, F_66_35, F_66_36, F_66_37, F_66_38, F_66_39, F_66_60, F_66_61, F_66_62, F_66_63, F_66_66, F_66_68, F_66_69, F_66_71, F_66_72, F_66_73, F_66_74, F_66_77, F_66_78, F_66_79, F_66_80, F_66_81, F_66_84, F_66_85, F_66_86, F_66_87, hS, f, l0, s1, nI_1, g, b2i_f, b2i_t, e10, decide_true, decide_false, List.length_nil, List.length_cons, Nat.zero_le] <;> first | done | decide | omega | fail) | fail) only [B_281_0, e_aload_n_0, e_call_1, psh_s, psh_n, Option.bind_some, G_1262, e_iconst_1, e_iaload, e_sipush_137, e_imul, e_bipush_71, e_iadd, e_sipush_1000, e_irem, e_iastore, e_iconst_2, e_if_ne, e_iconst_m1, R_281, T_281_38, B_281_38, e_istore_n_1, clr_i, clr_l, clr_a, clr_n, e_iconst_0, e_istore_n_2, e_gotow, T_281_57, e_iload_n_2, e_call_2, e_if_eq, e_iload_n_1, e_if_le, T_281_69, B_281_69, e_goto, T_281_82, B_281_82, T_281_83, B_281_83, e_isub, e_iinc_2_1, T_281_91, e_bipush_15, kd_sI, ln_sI, hl_sI, gL_sI, gR_sI, kd_sL, ln_sL, hl_sL, gI_sL, gR_sL, kd_sR, ln_sR, hl_sR, gI_sR, gL_sR, kd_cpI, ln_cpI, hl_cpI, gL_cpI, gR_cpI, gI_cpI, gI_sI, gL_sL, gR_sR, St_sI, St_sL, St_cpI, Nat.reduceEqDiff, Nat.reduceAdd, eq_self, false_and, and_false, true_and, and_true, and_self, if_true, if_false, false_or, or_false, true_or, or_true, not_true_eq_false, not_false_eq_true, reduceIte, K_66, F_66_0, F_66_10, F_66_11, F_66_12, F_66_13, F_66_14, F_66_15, F_66_16, F_66_17, F_66_18, F_66_25, F_66_26, F_66_27, F_66_28, F_66_29, F_66_30, F_66_31, F_66_32, F_66_33, F_66_34, F_66_35, F_66_36, F_66_37, F_66_38, F_66_39, F_66_60, F_66_61, F_66_62, F_66_63, F_66_66, F_66_68, F_66_69, F_66_71, F_66_72, F_66_73, F_66_74, F_66_77, F_66_78, F_66_79, F_66_80, F_66_81, F_66_84, F_66_85, F_66_86, F_66_87, f, l0, s1, nI_1, g, b2i_f, b2i_t, e10, decide_true, decide_false, List.length_nil, List.length_cons, Nat.zero_le]
    · rw [if_neg d1] at bt
      have d : decide (¬ bit (nI n) c = 0) = false := decide_eq_false (fun z => z bt)
      rw [d] at f
      have g := ih (c + 1) (by omega) (by unfold cb; rw [if_neg d1]; exact h1)
      rw [show cb n (c + 1) = cb n c from if_neg d1] at g
      rw [show mem n q c (m + 1) = mem n q (c + 1) m from if_neg (fun z => d1 z.1)]
      have s0 : nI (q - cb n c) - 0 = nI (q - cb n c) := by simp
      simp (disch := first | assumption | exact b2i_01 _ | decide | omega | (simp only [kd_sI, ln_sI, hl_sI, gL_sI, gR_sI, kd_sL, ln_sL, hl_sL, gI_sL, gR_sL, kd_sR, ln_sR, hl_sR, gI_sR, gL_sR, kd_cpI, ln_cpI, hl_cpI, gL_cpI, gR_cpI, gI_cpI, gI_sI, gL_sL, gR_sR, St_sI, St_sL, St_cpI, Nat.reduceEqDiff, Nat.reduceAdd, eq_self, false_and, and_false, true_and, and_true, and_self, if_true, if_false, false_or, or_false, true_or, or_true, not_true_eq_false, not_false_eq_true, reduceIte, K_66, F_66_0, F_66_10, F_66_11, F_66_12, F_66_13, F_66_14, F_66_15, F_66_16, F_66_17, F_66_18, F_66_25, F_66_26, F_66_27, F_66_28, F_66_29, F_66_30, F_66_31, F_66_32, F_66_33, F_66_34, F_66_35, F_66_36, F_66_37, F_66_38, F_66_39, F_66_60, F_66_61, F_66_62, F_66_63, F_66_66, F_66_68, F_66_69, F_66_71, F_66_72, F_66_73, F_66_74, F_66_77, F_66_78, F_66_79, F_66_80, F_66_81, F_66_84, F_66_85, F_66_86, F_66_87, hS, f, s0, nI_1, g, b2i_f, b2i_t, e10, decide_true, decide_false, List.length_nil, List.length_cons, Nat.zero_le] <;> first | done | decide | omega | fail) | fail) only [B_281_0, e_aload_n_0, e_call_1, psh_s, psh_n, Option.bind_some, G_1262, e_iconst_1, e_iaload, e_sipush_137, e_imul, e_bipush_71, e_iadd, e_sipush_1000, e_irem, e_iastore, e_iconst_2, e_if_ne, e_iconst_m1, R_281, T_281_38, B_281_38, e_istore_n_1, clr_i, clr_l, clr_a, clr_n, e_iconst_0, e_istore_n_2, e_gotow, T_281_57, e_iload_n_2, e_call_2, e_if_eq, e_iload_n_1, e_if_le, T_281_69, B_281_69, e_goto, T_281_82, B_281_82, T_281_83, B_281_83, e_isub, e_iinc_2_1, T_281_91, e_bipush_15, kd_sI, ln_sI, hl_sI, gL_sI, gR_sI, kd_sL, ln_sL, hl_sL, gI_sL, gR_sL, kd_sR, ln_sR, hl_sR, gI_sR, gL_sR, kd_cpI, ln_cpI, hl_cpI, gL_cpI, gR_cpI, gI_cpI, gI_sI, gL_sL, gR_sR, St_sI, St_sL, St_cpI, Nat.reduceEqDiff, Nat.reduceAdd, eq_self, false_and, and_false, true_and, and_true, and_self, if_true, if_false, false_or, or_false, true_or, or_true, not_true_eq_false, not_false_eq_true, reduceIte, K_66, F_66_0, F_66_10, F_66_11, F_66_12, F_66_13, F_66_14, F_66_15, F_66_16, F_66_17, F_66_18, F_66_25, F_66_26, F_66_27, F_66_28, F_66_29, F_66_30, F_66_31, F_66_32, F_66_33, F_66_34, F_66_35, F_66_36, F_66_37, F_66_38, F_66_39, F_66_60, F_66_61, F_66_62, F_66_63, F_66_66, F_66_68, F_66_69, F_66_71, F_66_72, F_66_73, F_66_74, F_66_77, F_66_78, F_66_79, F_66_80, F_66_81, F_66_84, F_66_85, F_66_86, F_66_87, f, s0, nI_1, g, b2i_f, b2i_t, e10, decide_true, decide_false, List.length_nil, List.length_cons, Nat.zero_le]
theorem cb_0 {n : Nat} (h : cb n 12 = 0) (hn : n < 4096) : n = 0 := by
  apply Nat.eq_of_testBit_eq
  intro i
  rw [Nat.zero_testBit]
  rcases Nat.lt_or_ge i 12 with q | q
  · have := cb_mono (n := n) (c := i + 1) (12 - (i + 1))
    rw [show i + 1 + (12 - (i + 1)) = 12 by omega, h] at this
    unfold cb at this
    cases d : n.testBit i
    · rfl
    · rw [d, if_pos rfl] at this; omega
  · exact Nat.testBit_lt_two_pow (Nat.lt_of_lt_of_le hn (Nat.le_trans (by decide) (Nat.pow_le_pow_right (by omega) q)))
theorem RowOK.seed {L : LD} {N : Nat → Int32} {s : Nat} (h : RowOK L N) (hs : s < 1000) : RowOK L (stj N 1 (nI s)) := by
  obtain ⟨a, b, c, d⟩ := h
  exact ⟨by rw [stj_o (by omega)]; exact a, by rw [stj_o (by omega)]; exact b, ⟨s, hs, stj_s⟩, fun c' h1 h2 => by rw [stj_o (by omega)]; exact d c' h1 h2⟩
theorem p_storm {o p : Nat} {L : LD} {h : MH} (hI : INV o p L h) {μ : Nat} (hμ : 7 < μ) : ∃ p' h1 h2 v, cal 132 [.ref 2] μ h = some (some (.int v), h1) ∧ cal 281 [.ref 66] μ h1 = some (some (.int v), h2) ∧ INV o p' L h2 := by
  have hI0 := hI
  obtain ⟨u, r, ur, hAR, u1, u2, u3, u4⟩ := hI0.pc
  have hI := hI0.1
  have hS := hI.1.1; have hB := hI.1.2.1; have hC := hI.1.2.2.1; have hM := hI.2.1; have hs := hI.2.2; have ho := hC.1.1; have hl := hC.1.2.1; have hl2 := hC.1.2.2.1; have hl3 := hC.1.2.2.2; have cT := hC.2.1.1; have cR := hC.2.1.2.1; have cC := hC.2.1.2.2.1; have cN := hC.2.1.2.2.2; have mT := hM.1.1; have mR := hM.1.2.1; have mC := hM.1.2.2.1; have mN := hM.1.2.2.2; have hb := hB.1; have e10 : ((1 : Int32) = 0) = False := by simp
  have hμ4 : 4 < μ := by omega
  have hp44 : p < 44 := by have := hs.2.1; omega
  have hq : (p + 1) % 41 < 41 := Nat.mod_lt _ (by omega)
  obtain ⟨n, n1, n2⟩ := hs.2.2.2.1
  obtain ⟨sd, s1, s2⟩ := hs.2.2.2.2.2
  have h12 := pw12 hb.2.2.1
  have hn : n < 4096 := by omega
  have i1 : inBd (1 : Int32) 32 = true := by decide
  have k1 : (1 : Int32).toNatClampNeg = 1 := by decide
  have i2 : inBd (2 : Int32) 32 = true := by decide
  have k2 : (2 : Int32).toNatClampNeg = 2 := by decide
  have sd1 : nI sd * 137 + 71 = nI (sd * 137 + 71) := by rw [show (137 : Int32) = nI 137 from rfl, show (71 : Int32) = nI 71 from rfl, mul_nI, nI_add]
  have sd2 : nI (sd * 137 + 71) - nI (sd * 137 + 71) / 1000 * 1000 = nI ((sd * 137 + 71) % 1000) := pk_rem (a := sd * 137 + 71) (d := 1000) (by omega) (by omega) (by omega)
  have n1000 : ¬ ((1000 : Int32) = 0) := by decide
  obtain ⟨sd', esd⟩ : ∃ sd', sd' = (sd * 137 + 71) % 1000 := ⟨_, rfl⟩
  have lsd : sd' < 1000 := by rw [esd]; exact Nat.mod_lt _ (by omega)
  rw [← esd] at sd2
  obtain ⟨h1, f1, ca1, hS1⟩ := q_startAct hI u1 (by omega) (μ := 6) (by omega)
  have e2 := s_Sn_seedNow (μ := 6) hS1 ca1.2.1 (by omega) (by omega)
  have rs1 : gI h1 54 ((p + 1) % 41 * 27 + 1) = nI sd := (ca1.row 1 (by omega)).trans ((hAR.2.1 1 (by omega)).trans s2)
  rw [rs1] at e2
  have e3 := s_Sn_write (μ := 6) (j := 1) (v := nI sd') hS1 ca1.2.1 (by omega) (by omega) (by omega)
  rw [← nI_lit] at e3
  have r1 := (CR.rf h1).write (v := nI sd') (show (p + 1) % 41 < 44 by omega) (show 1 < 27 by omega)
  obtain ⟨h2, eh2⟩ : ∃ h2, h2 = sI h1 54 ((p + 1) % 41 * 27 + 1) (nI sd') := ⟨_, rfl⟩
  rw [← eh2] at e3 r1
  have ca2 : CA h h2 p u (stj (rowM h) 1 (nI sd')) := ca1.step r1 ((ca1.row.trans hAR.2.1).stj rfl)
  have hS2 : St h2 := ca2.1.St hS (by decide +kernel)
  have e4 := s_Sn_inNow (μ := 6) hS2 ca2.2.1 (by omega) (by omega)
  have ri : gI h2 54 ((p + 1) % 41 * 27 + 2) = nI n := (ca2.row 2 (by omega)).trans ((stj_o (by omega)).trans n2)
  rw [ri] at e4
  have e5 := s_JI_bitCount (h := h2) (μ := 6) (x := nI n) (by omega)
  rw [pcn_cb hn] at e5
  have cl := cb_le (n := n) 12
  -- the reference's part, up to the seed, over any heap behind the class's
  have ref : ∀ h3 f3, CA h h3 p u f3 → ∃ h5, MA h3 h5 u (stj (rowM h) 1 (nI sd')) ∧ St h5 ∧ (cb n 12 = 0 → cal 281 [.ref 66] μ h3 = some (some (.int (-1)), h5)) ∧ (¬ cb n 12 = 0 → cal 281 [.ref 66] μ h3 = rn 281 4 B_281_91 [some (.ref 66), some (.int (nI 0)), some (.int (nI (mem n (sd' % cb n 12) 0 12)))] [] h5) := by
    intro h3 f3 ca3
    have hS3 : St h3 := ca3.1.St hS (by decide +kernel)
    have hu2 : gI h3 66 64 = nI u := by rw [ca3.1.I rfl]; exact u2
    obtain ⟨h4, f4, ma4, hS4⟩ := q_act hS3 hu2 (by omega) (μ := 4) (by omega)
    have eM : rowM h3 = rowM h := funext fun k => ca3.1.I rfl
    rw [eM] at ma4
    have v1 : gI h4 94 1 = nI sd := (ma4.2.2.2.1 1 (by omega)).trans s2
    have v2 : gI h4 94 2 = nI n := (ma4.2.2.2.1 2 (by omega)).trans n2
    have ma5 : MA h3 (sI h4 94 1 (nI sd')) u (stj (rowM h) 1 (nI sd')) := ma4.step
    have hS5 : St (sI h4 94 1 (nI sd')) := ma5.1.St hS3 (by decide +kernel)
    refine ⟨_, ma5, hS5, fun c => ?_, fun c => ?_⟩
    · have hn0 := cb_0 c hn
      subst hn0
      have z : (nI 0 = 0) = True := eq_true rfl
      rw [C_281 66 μ h3 (K_66 hS3) (by decide) hμ4]
      simp (disch := first | assumption | exact b2i_01 _ | decide | omega | (simp only [kd_sI, ln_sI, hl_sI, gL_sI, gR_sI, kd_sL, ln_sL, hl_sL, gI_sL, gR_sL, kd_sR, ln_sR, hl_sR, gI_sR, gL_sR, kd_cpI, ln_cpI, hl_cpI, gL_cpI, gR_cpI, gI_cpI, gI_sI, gL_sL, gR_sR, St_sI, St_sL, St_cpI, Nat.reduceEqDiff, Nat.reduceAdd, eq_self, false_and, and_false, true_and, and_true, and_self, if_true, if_false, false_or, or_false, true_or, or_true, not_true_eq_false, not_false_eq_true, reduceIte, K_66, F_66_0, F_66_10, F_66_11, F_66_12, F_66_13, F_66_14, F_66_15, F_66_16, F_66_17, F_66_18, F_66_25, F_66_26, F_66_27, F_66_28, F_66_29, F_66_30, F_66_31, F_66_32, F_66_33, F_66_34, F_66_35, F_66_36, F_66_37, F_66_38, F_66_39, F_66_60, F_66_61, F_66_62, F_66_63, F_66_66, F_66_68, F_66_69, F_66_71, F_66_72, F_66_73, F_66_74, F_66_77, F_66_78, F_66_79, F_66_80, F_66_81, F_66_84, F_66_85, F_66_86, F_66_87, K_94, N_94, hS, hS3, hS4, f4, i1, k1, i2, k2, v1, v2, sd1, sd2, n1000, z, List.length_nil, List.length_cons, Nat.zero_le] <;> first | done | decide | omega | fail) | fail) only [B_281_0, e_aload_n_0, e_call_1, psh_s, psh_n, Option.bind_some, G_1262, e_iconst_1, e_iaload, e_sipush_137, e_imul, e_bipush_71, e_iadd, e_sipush_1000, e_irem, e_iastore, e_iconst_2, e_if_ne, e_iconst_m1, R_281, T_281_38, B_281_38, e_istore_n_1, clr_i, clr_l, clr_a, clr_n, e_iconst_0, e_istore_n_2, e_gotow, T_281_57, e_iload_n_2, e_call_2, e_if_eq, e_iload_n_1, e_if_le, T_281_69, B_281_69, e_goto, T_281_82, B_281_82, T_281_83, B_281_83, e_isub, e_iinc_2_1, T_281_91, e_bipush_15, kd_sI, ln_sI, hl_sI, gL_sI, gR_sI, kd_sL, ln_sL, hl_sL, gI_sL, gR_sL, kd_sR, ln_sR, hl_sR, gI_sR, gL_sR, kd_cpI, ln_cpI, hl_cpI, gL_cpI, gR_cpI, gI_cpI, gI_sI, gL_sL, gR_sR, St_sI, St_sL, St_cpI, Nat.reduceEqDiff, Nat.reduceAdd, eq_self, false_and, and_false, true_and, and_true, and_self, if_true, if_false, false_or, or_false, true_or, or_true, not_true_eq_false, not_false_eq_true, reduceIte, K_66, F_66_0, F_66_10, F_66_11, F_66_12, F_66_13, F_66_14, F_66_15, F_66_16, F_66_17, F_66_18, F_66_25, F_66_26, F_66_27, F_66_28, F_66_29, F_66_30, F_66_31, F_66_32, F_66_33, F_66_34, F_66_35, F_66_36, F_66_37, F_66_38, F_66_39, F_66_60, F_66_61, F_66_62, F_66_63, F_66_66, F_66_68, F_66_69, F_66_71, F_66_72, F_66_73, F_66_74, F_66_77, F_66_78, F_66_79, F_66_80, F_66_81, F_66_84, F_66_85, F_66_86, F_66_87, K_94, N_94, hS3, hS4, f4, i1, k1, i2, k2, v1, v2, sd1, sd2, n1000, z, List.length_nil, List.length_cons, Nat.zero_le]
    · have z : ¬ nI n = 0 := by
        refine nI_nz ?_ (by omega)
        rcases Nat.eq_zero_or_pos n with q | q
        · subst q; exact absurd (by decide) c
        · exact q
      have f6 := s_Mo_members (h := sI h4 94 1 (nI sd')) (μ := 4) (s := n) hn (by omega)
      rw [pcn_cb hn] at f6
      have z2 := nI_nz (a := cb n 12) (by omega) (by omega)
      have rm := pk_rem (a := sd') (d := cb n 12) (by omega) (by omega) (by omega)
      have hlt : sd' % cb n 12 < cb n 12 := Nat.mod_lt _ (by omega)
      have g := lp_Mo_storm (q := sd' % cb n 12) hS5 hn (by rw [gI_sI, if_neg (by omega)]; exact v2) hlt 12 0 (by omega) (Nat.zero_le _)
      rw [show cb n 0 = 0 from rfl, Nat.sub_zero] at g
      rw [C_281 66 μ h3 (K_66 hS3) (by decide) hμ4]
      simp (disch := first | assumption | exact b2i_01 _ | decide | omega | (simp only [kd_sI, ln_sI, hl_sI, gL_sI, gR_sI, kd_sL, ln_sL, hl_sL, gI_sL, gR_sL, kd_sR, ln_sR, hl_sR, gI_sR, gL_sR, kd_cpI, ln_cpI, hl_cpI, gL_cpI, gR_cpI, gI_cpI, gI_sI, gL_sL, gR_sR, St_sI, St_sL, St_cpI, Nat.reduceEqDiff, Nat.reduceAdd, eq_self, false_and, and_false, true_and, and_true, and_self, if_true, if_false, false_or, or_false, true_or, or_true, not_true_eq_false, not_false_eq_true, reduceIte, K_66, F_66_0, F_66_10, F_66_11, F_66_12, F_66_13, F_66_14, F_66_15, F_66_16, F_66_17, F_66_18, F_66_25, F_66_26, F_66_27, F_66_28, F_66_29, F_66_30, F_66_31, F_66_32, F_66_33, F_66_34, F_66_35, F_66_36, F_66_37, F_66_38, F_66_39, F_66_60, F_66_61, F_66_62, F_66_63, F_66_66, F_66_68, F_66_69, F_66_71, F_66_72, F_66_73, F_66_74, F_66_77, F_66_78, F_66_79, F_66_80, F_66_81, F_66_84, F_66_85, F_66_86, F_66_87, K_94, N_94, hS, hS3, hS4, f4, f6, i1, k1, i2, k2, v1, v2, sd1, sd2, n1000, z, z2, rm, List.length_nil, List.length_cons, Nat.zero_le] <;> first | done | decide | omega | fail) | fail) only [B_281_0, e_aload_n_0, e_call_1, psh_s, psh_n, Option.bind_some, G_1262, e_iconst_1, e_iaload, e_sipush_137, e_imul, e_bipush_71, e_iadd, e_sipush_1000, e_irem, e_iastore, e_iconst_2, e_if_ne, e_iconst_m1, R_281, T_281_38, B_281_38, e_istore_n_1, clr_i, clr_l, clr_a, clr_n, e_iconst_0, e_istore_n_2, e_gotow, T_281_57, e_iload_n_2, e_call_2, e_if_eq, e_iload_n_1, e_if_le, T_281_69, B_281_69, e_goto, T_281_82, B_281_82, T_281_83, B_281_83, e_isub, e_iinc_2_1, T_281_91, e_bipush_15, kd_sI, ln_sI, hl_sI, gL_sI, gR_sI, kd_sL, ln_sL, hl_sL, gI_sL, gR_sL, kd_sR, ln_sR, hl_sR, gI_sR, gL_sR, kd_cpI, ln_cpI, hl_cpI, gL_cpI, gR_cpI, gI_cpI, gI_sI, gL_sL, gR_sR, St_sI, St_sL, St_cpI, Nat.reduceEqDiff, Nat.reduceAdd, eq_self, false_and, and_false, true_and, and_true, and_self, if_true, if_false, false_or, or_false, true_or, or_true, not_true_eq_false, not_false_eq_true, reduceIte, K_66, F_66_0, F_66_10, F_66_11, F_66_12, F_66_13, F_66_14, F_66_15, F_66_16, F_66_17, F_66_18, F_66_25, F_66_26, F_66_27, F_66_28, F_66_29, F_66_30, F_66_31, F_66_32, F_66_33, F_66_34, F_66_35, F_66_36, F_66_37, F_66_38, F_66_39, F_66_60, F_66_61, F_66_62, F_66_63, F_66_66, F_66_68, F_66_69, F_66_71, F_66_72, F_66_73, F_66_74, F_66_77, F_66_78, F_66_79, F_66_80, F_66_81, F_66_84, F_66_85, F_66_86, F_66_87, K_94, N_94, hS3, hS4, f4, f6, i1, k1, i2, k2, v1, v2, sd1, sd2, n1000, z, z2, rm, List.length_nil, List.length_cons, Nat.zero_le]
      exact g
  by_cases c : cb n 12 = 0
  · obtain ⟨h5, ma5, -, g5, -⟩ := ref h2 _ ca2
    refine ⟨(p + 1) % 41, h2, h5, -1, ?_, g5 c, hI0.acted hAR ca2 ma5 (hAR.2.2.1.seed lsd) (Eq27.rf _)⟩
    rw [c] at e5
    have z : (nI 0 = 0) = True := eq_true rfl
    have e : cal 133 [.ref 53] 7 h = some (some (.int (-1)), h2) := by
      have hμ : 6 < 7 := by omega
      rw [C_133 53 7 h (K_53 hS) (by decide) hμ]
      simp (disch := first | assumption | exact b2i_01 _ | decide | omega | (simp only [kd_sI, ln_sI, hl_sI, gL_sI, gR_sI, kd_sL, ln_sL, hl_sL, gI_sL, gR_sL, kd_sR, ln_sR, hl_sR, gI_sR, gL_sR, kd_cpI, ln_cpI, hl_cpI, gL_cpI, gR_cpI, gI_cpI, gI_sI, gL_sL, gR_sR, St_sI, St_sL, St_cpI, Nat.reduceEqDiff, Nat.reduceAdd, eq_self, false_and, and_false, true_and, and_true, and_self, if_true, if_false, false_or, or_false, true_or, or_true, not_true_eq_false, not_false_eq_true, reduceIte, K_53, F_53_1, hS, hS1, hS2, f1, e2, sd1, sd2, n1000, e3, e4, e5, z, List.length_nil, List.length_cons, Nat.zero_le] <;> first | done | decide | omega | fail) | fail) only [B_133_0, e_aload_n_0, e_call_1, psh_s, psh_n, Option.bind_some, e_sipush_137, e_imul, e_bipush_71, e_iadd, e_sipush_1000, e_irem, e_istore_n_1, clr_i, clr_l, clr_a, clr_n, e_iconst_1, e_iload_n_1, e_call_3, e_istore_n_2, e_iload_n_2, e_istore_n_3, e_iload_n_3, e_if_ne, e_iconst_m1, R_133, T_133_42, B_133_42, e_call_2, e_istore_4, e_iload_4, kd_sI, ln_sI, hl_sI, gL_sI, gR_sI, kd_sL, ln_sL, hl_sL, gI_sL, gR_sL, kd_sR, ln_sR, hl_sR, gI_sR, gL_sR, kd_cpI, ln_cpI, hl_cpI, gL_cpI, gR_cpI, gI_cpI, gI_sI, gL_sL, gR_sR, St_sI, St_sL, St_cpI, Nat.reduceEqDiff, Nat.reduceAdd, eq_self, false_and, and_false, true_and, and_true, and_self, if_true, if_false, false_or, or_false, true_or, or_true, not_true_eq_false, not_false_eq_true, reduceIte, K_53, F_53_1, hS1, hS2, f1, e2, sd1, sd2, n1000, e3, e4, e5, z, List.length_nil, List.length_cons, Nat.zero_le]
    rw [C_132 2  μ _ (K_2 hS) (by decide) hμ]
    simp (disch := first | assumption | exact b2i_01 _ | decide | omega | (simp only [kd_sI, ln_sI, hl_sI, gL_sI, gR_sI, kd_sL, ln_sL, hl_sL, gI_sL, gR_sL, kd_sR, ln_sR, hl_sR, gI_sR, gL_sR, kd_cpI, ln_cpI, hl_cpI, gL_cpI, gR_cpI, gI_cpI, gI_sI, gL_sL, gR_sR, St_sI, St_sL, St_cpI, Nat.reduceEqDiff, Nat.reduceAdd, eq_self, false_and, and_false, true_and, and_true, and_self, if_true, if_false, false_or, or_false, true_or, or_true, not_true_eq_false, not_false_eq_true, reduceIte, K_2, F_2_0, F_2_1, F_2_2, F_2_3, F_2_4, F_2_5, F_2_6, K_53, F_53_1, hS, e, List.length_nil, List.length_cons, Nat.zero_le] <;> first | done | decide | omega | fail) | fail) only [B_132_0, e_aload_n_0, G_1103, e_call_1, psh_s, psh_n, Option.bind_some, R_132, kd_sI, ln_sI, hl_sI, gL_sI, gR_sI, kd_sL, ln_sL, hl_sL, gI_sL, gR_sL, kd_sR, ln_sR, hl_sR, gI_sR, gL_sR, kd_cpI, ln_cpI, hl_cpI, gL_cpI, gR_cpI, gI_cpI, gI_sI, gL_sL, gR_sR, St_sI, St_sL, St_cpI, Nat.reduceEqDiff, Nat.reduceAdd, eq_self, false_and, and_false, true_and, and_true, and_self, if_true, if_false, false_or, or_false, true_or, or_true, not_true_eq_false, not_false_eq_true, reduceIte, K_2, F_2_0, F_2_1, F_2_2, F_2_3, F_2_4, F_2_5, F_2_6, K_53, F_53_1, e, List.length_nil, List.length_cons, Nat.zero_le]
  · have z2 := nI_nz (a := cb n 12) (by omega) (by omega)
    have rm := pk_rem (a := sd') (d := cb n 12) (by omega) (by omega) (by omega)
    have hlt : sd' % cb n 12 < cb n 12 := Nat.mod_lt _ (by omega)
    obtain ⟨m1, m2⟩ := mem_ok hlt 12 0 (by omega) (Nat.zero_le _)
    obtain ⟨cc, ecc⟩ : ∃ cc, cc = mem n (sd' % cb n 12) 0 12 := ⟨_, rfl⟩
    rw [← ecc] at m1 m2
    have hcc : cc < dC L := by
      rcases Nat.lt_or_ge cc (dC L) with q | q
      · exact q
      · rw [Nat.testBit_lt_two_pow (Nat.lt_of_lt_of_le n1 (Nat.pow_le_pow_right (by omega) q))] at m2
        cases m2
    have e6 := s_Sn_memberAt (h := h2) (μ := 6) hn hlt (by omega)
    rw [← ecc] at e6
    obtain ⟨h3, f3, cr3⟩ := s_Sn_letOut (μ := 6) (c := cc) (v := -1) hS2 (CR.rf h2) ca2.2.1 (by omega) m1 (by omega)
    have ca3 : CA h h3 p u (stj (stj (stj (stj (rowM h) 1 (nI sd')) 2 (stj (rowM h) 1 (nI sd') 2 &&& (one cc ^^^ -1))) (3 + cc) (-1)) (15 + cc) (-1)) := ca2.step cr3 (((ca2.row.stj (by rw [ca2.row 2 (by omega)])).stj rfl).stj rfl)
    have hS3 : St h3 := ca3.1.St hS (by decide +kernel)
    obtain ⟨h5, ma5, hS5, -, g5⟩ := ref h3 _ ca3
    rw [← ecc] at g5
    have ma6 := ((ma5.step (j := 2) (v := stj (rowM h) 1 (nI sd') 2 &&& (one cc ^^^ -1))).step (j := 3 + cc) (v := -1)).step (j := 15 + cc) (v := -1)
    refine ⟨(p + 1) % 41, h3, _, nI cc, ?_, ?_, hI0.acted hAR ca3 ma6 ((hAR.2.2.1.seed lsd).out hB hcc) (Eq27.rf _)⟩
    · have e : cal 133 [.ref 53] 7 h = some (some (.int (nI cc)), h3) := by
        have hμ : 6 < 7 := by omega
        rw [C_133 53 7 h (K_53 hS) (by decide) hμ]
        simp (disch := first | assumption | exact b2i_01 _ | decide | omega | (simp only [kd_sI, ln_sI, hl_sI, gL_sI, gR_sI, kd_sL, ln_sL, hl_sL, gI_sL, gR_sL, kd_sR, ln_sR, hl_sR, gI_sR, gL_sR, kd_cpI, ln_cpI, hl_cpI, gL_cpI, gR_cpI, gI_cpI, gI_sI, gL_sL, gR_sR, St_sI, St_sL, St_cpI, Nat.reduceEqDiff, Nat.reduceAdd, eq_self, false_and, and_false, true_and, and_true, and_self, if_true, if_false, false_or, or_false, true_or, or_true, not_true_eq_false, not_false_eq_true, reduceIte, K_53, F_53_1, hS, hS1, hS2, hS3, f1, e2, sd1, sd2, n1000, e3, e4, e5, z2, rm, e6, f3, List.length_nil, List.length_cons, Nat.zero_le] <;> first | done | decide | omega | fail) | fail) only [B_133_0, e_aload_n_0, e_call_1, psh_s, psh_n, Option.bind_some, e_sipush_137, e_imul, e_bipush_71, e_iadd, e_sipush_1000, e_irem, e_istore_n_1, clr_i, clr_l, clr_a, clr_n, e_iconst_1, e_iload_n_1, e_call_3, e_istore_n_2, e_iload_n_2, e_istore_n_3, e_iload_n_3, e_if_ne, e_iconst_m1, R_133, T_133_42, B_133_42, e_call_2, e_istore_4, e_iload_4, kd_sI, ln_sI, hl_sI, gL_sI, gR_sI, kd_sL, ln_sL, hl_sL, gI_sL, gR_sL, kd_sR, ln_sR, hl_sR, gI_sR, gL_sR, kd_cpI, ln_cpI, hl_cpI, gL_cpI, gR_cpI, gI_cpI, gI_sI, gL_sL, gR_sR, St_sI, St_sL, St_cpI, Nat.reduceEqDiff, Nat.reduceAdd, eq_self, false_and, and_false, true_and, and_true, and_self, if_true, if_false, false_or, or_false, true_or, or_true, not_true_eq_false, not_false_eq_true, reduceIte, K_53, F_53_1, hS1, hS2, hS3, f1, e2, sd1, sd2, n1000, e3, e4, e5, z2, rm, e6, f3, List.length_nil, List.length_cons, Nat.zero_le]
      rw [C_132 2  μ _ (K_2 hS) (by decide) hμ]
      simp (disch := first | assumption | exact b2i_01 _ | decide | omega | (simp only [kd_sI, ln_sI, hl_sI, gL_sI, gR_sI, kd_sL, ln_sL, hl_sL, gI_sL, gR_sL, kd_sR, ln_sR, hl_sR, gI_sR, gL_sR, kd_cpI, ln_cpI, hl_cpI, gL_cpI, gR_cpI, gI_cpI, gI_sI, gL_sL, gR_sR, St_sI, St_sL, St_cpI, Nat.reduceEqDiff, Nat.reduceAdd, eq_self, false_and, and_false, true_and, and_true, and_self, if_true, if_false, false_or, or_false, true_or, or_true, not_true_eq_false, not_false_eq_true, reduceIte, K_2, F_2_0, F_2_1, F_2_2, F_2_3, F_2_4, F_2_5, F_2_6, K_53, F_53_1, hS, e, List.length_nil, List.length_cons, Nat.zero_le] <;> first | done | decide | omega | fail) | fail) only [B_132_0, e_aload_n_0, G_1103, e_call_1, psh_s, psh_n, Option.bind_some, R_132, kd_sI, ln_sI, hl_sI, gL_sI, gR_sI, kd_sL, ln_sL, hl_sL, gI_sL, gR_sL, kd_sR, ln_sR, hl_sR, gI_sR, gL_sR, kd_cpI, ln_cpI, hl_cpI, gL_cpI, gR_cpI, gI_cpI, gI_sI, gL_sL, gR_sR, St_sI, St_sL, St_cpI, Nat.reduceEqDiff, Nat.reduceAdd, eq_self, false_and, and_false, true_and, and_true, and_self, if_true, if_false, false_or, or_false, true_or, or_true, not_true_eq_false, not_false_eq_true, reduceIte, K_2, F_2_0, F_2_1, F_2_2, F_2_3, F_2_4, F_2_5, F_2_6, K_53, F_53_1, e, List.length_nil, List.length_cons, Nat.zero_le]
    · have f7 := s_Mo_out (μ := 4) (c := cc) hS5 m1 (by omega)
      have v2 : gI h5 94 2 = stj (rowM h) 1 (nI sd') 2 := ma5.2.2.2.1 2 (by omega)
      rw [v2] at f7
      have e7 : (15 : Int32) + nI cc = nI (15 + cc) := by rw [show (15 : Int32) = nI 15 from rfl, nI_add]
      have b3 : inBd (nI (15 + cc)) 32 = true := inBd_nI (by omega) (by omega)
      have t3 := tc_nI (show 15 + cc < 2147483648 by omega)
      rw [g5 c, B_281_91]
      simp (disch := first | assumption | exact b2i_01 _ | decide | omega | (simp only [kd_sI, ln_sI, hl_sI, gL_sI, gR_sI, kd_sL, ln_sL, hl_sL, gI_sL, gR_sL, kd_sR, ln_sR, hl_sR, gI_sR, gL_sR, kd_cpI, ln_cpI, hl_cpI, gL_cpI, gR_cpI, gI_cpI, gI_sI, gL_sL, gR_sR, St_sI, St_sL, St_cpI, Nat.reduceEqDiff, Nat.reduceAdd, eq_self, false_and, and_false, true_and, and_true, and_self, if_true, if_false, false_or, or_false, true_or, or_true, not_true_eq_false, not_false_eq_true, reduceIte, K_66, F_66_0, F_66_10, F_66_11, F_66_12, F_66_13, F_66_14, F_66_15, F_66_16, F_66_17, F_66_18, F_66_25, F_66_26, F_66_27, F_66_28, F_66_29, F_66_30, F_66_31, F_66_32, F_66_33, F_66_34, F_66_35, F_66_36, F_66_37, F_66_38, F_66_39, F_66_60, F_66_61, F_66_62, F_66_63, F_66_66, F_66_68, F_66_69, F_66_71, F_66_72, F_66_73, F_66_74, F_66_77, F_66_78, F_66_79, F_66_80, F_66_81, F_66_84, F_66_85, F_66_86, F_66_87, K_94, N_94, hS, hS5, f7, e7, b3, t3, List.length_nil, List.length_cons, Nat.zero_le] <;> first | done | decide | omega | fail) | fail) only [B_281_0, e_aload_n_0, e_call_1, psh_s, psh_n, Option.bind_some, G_1262, e_iconst_1, e_iaload, e_sipush_137, e_imul, e_bipush_71, e_iadd, e_sipush_1000, e_irem, e_iastore, e_iconst_2, e_if_ne, e_iconst_m1, R_281, T_281_38, B_281_38, e_istore_n_1, clr_i, clr_l, clr_a, clr_n, e_iconst_0, e_istore_n_2, e_gotow, T_281_57, e_iload_n_2, e_call_2, e_if_eq, e_iload_n_1, e_if_le, T_281_69, B_281_69, e_goto, T_281_82, B_281_82, T_281_83, B_281_83, e_isub, e_iinc_2_1, T_281_91, e_bipush_15, kd_sI, ln_sI, hl_sI, gL_sI, gR_sI, kd_sL, ln_sL, hl_sL, gI_sL, gR_sL, kd_sR, ln_sR, hl_sR, gI_sR, gL_sR, kd_cpI, ln_cpI, hl_cpI, gL_cpI, gR_cpI, gI_cpI, gI_sI, gL_sL, gR_sR, St_sI, St_sL, St_cpI, Nat.reduceEqDiff, Nat.reduceAdd, eq_self, false_and, and_false, true_and, and_true, and_self, if_true, if_false, false_or, or_false, true_or, or_true, not_true_eq_false, not_false_eq_true, reduceIte, K_66, F_66_0, F_66_10, F_66_11, F_66_12, F_66_13, F_66_14, F_66_15, F_66_16, F_66_17, F_66_18, F_66_25, F_66_26, F_66_27, F_66_28, F_66_29, F_66_30, F_66_31, F_66_32, F_66_33, F_66_34, F_66_35, F_66_36, F_66_37, F_66_38, F_66_39, F_66_60, F_66_61, F_66_62, F_66_63, F_66_66, F_66_68, F_66_69, F_66_71, F_66_72, F_66_73, F_66_74, F_66_77, F_66_78, F_66_79, F_66_80, F_66_81, F_66_84, F_66_85, F_66_86, F_66_87, K_94, N_94, hS5, f7, e7, b3, t3, List.length_nil, List.length_cons, Nat.zero_le]
