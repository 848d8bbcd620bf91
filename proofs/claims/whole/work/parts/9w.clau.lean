theorem rk_link {n : Nat} {c : Int32} {P : Int64 → Bool} {h h1 : MH} (hS : St h) (f0 : gI h 45 4 = 0) (hn : n < 1600) (hv : ∀ W, cal 53 [.ref 45, .long W] 7 h = some (some (.int (b2i (P W))), h)) (h1' : P 7562612 = false) (h2' : P 28832984692515955 = false) (hP : P 1870030194 = true ∨ P 474147546227 = true ∨ P 1650553459 = true) (s1 : cal 72 [.ref 45, .int c] 7 h = some (none, h1)) : rn 70 7 B_70_2 [some (.ref 45), some (.int c), some (.int (nI n))] [] h = rn 70 7 B_70_2 [some (.ref 45), some (.int c), some (.int (nI (n + 1)))] [] h1 := by
  have e10 : ((1 : Int32) = 0) = False := by simp
  have v1 := hv 7562612
  have v2 := hv 28832984692515955
  have v3 := hv 1870030194
  have v4 := hv 474147546227
  have v5 := hv 1650553459
  have lt : ((1600 : Int32) ≤ nI n) = False := (eq_false (by simp (disch := omega) only [nI_lit, nI_add, lt_nI, le_nI, eq_nI] <;> omega) : ((1600 : Int32) ≤ nI n) = False)
  clear hv
  rw [h1', b2i_f] at v1
  rw [h2', b2i_f] at v2
  conv => lhs; rw [B_70_2]
  cases a3 : P 1870030194 with
  | true =>
    rw [a3, b2i_t] at v3
    simp (disch := first | assumption | exact b2i_01 _ | decide | omega | (simp only [kd_sI, ln_sI, hl_sI, gL_sI, gR_sI, kd_sL, ln_sL, hl_sL, gI_sL, gR_sL, kd_sR, ln_sR, hl_sR, gI_sR, gL_sR, kd_cpI, ln_cpI, hl_cpI, gL_cpI, gR_cpI, gI_cpI, gI_sI, gL_sL, gR_sR, St_sI, St_sL, St_cpI, Nat.reduceEqDiff, Nat.reduceAdd, eq_self, false_and, and_false, true_and, and_true, and_self, if_true, if_false, false_or, or_false, true_or, or_true, not_true_eq_false, not_false_eq_true, reduceIte, K_45, F_45_0, hS, lt, f0, v1, v2, v3, e10, s1, nI_1, List.length_nil, List.length_cons, Nat.zero_le] <;> first | done | decide | omega | fail) | fail) only [B_70_0, e_iconst_0, e_istore_n_2, clr_i, clr_l, clr_a, clr_n, e_gotow, T_70_2, e_iload_n_2, e_sipush_1600, e_ic_ge, e_aload_n_0, G_604, e_if_ne, e_ldc2_7562612, e_call_2, psh_s, psh_n, Option.bind_some, e_if_eq, G_601, G_512, e_iload_n_1, e_call_3, P_512, e_goto, T_70_48, B_70_48, e_ldc2_28832984692515955, G_513, P_513, T_70_80, B_70_80, e_ldc2_1870030194, e_ldc2_474147546227, e_ldc2_1650553459, T_70_110, B_70_110, T_70_118, B_70_118, R_70, T_70_119, B_70_119, e_iinc_2_1, T_70_125, B_70_125, kd_sI, ln_sI, hl_sI, gL_sI, gR_sI, kd_sL, ln_sL, hl_sL, gI_sL, gR_sL, kd_sR, ln_sR, hl_sR, gI_sR, gL_sR, kd_cpI, ln_cpI, hl_cpI, gL_cpI, gR_cpI, gI_cpI, gI_sI, gL_sL, gR_sR, St_sI, St_sL, St_cpI, Nat.reduceEqDiff, Nat.reduceAdd, eq_self, false_and, and_false, true_and, and_true, and_self, if_true, if_false, false_or, or_false, true_or, or_true, not_true_eq_false, not_false_eq_true, reduceIte, K_45, F_45_0, lt, f0, v1, v2, v3, e10, s1, nI_1, List.length_nil, List.length_cons, Nat.zero_le]
  | false =>
    rw [a3, b2i_f] at v3
    cases a4 : P 474147546227 with
    | true =>
      rw [a4, b2i_t] at v4
      simp (disch := first | assumption | exact b2i_01 _ | decide | omega | (simp only [kd_sI, ln_sI, hl_sI, gL_sI, gR_sI, kd_sL, ln_sL, hl_sL, gI_sL, gR_sL, kd_sR, ln_sR, hl_sR, gI_sR, gL_sR, kd_cpI, ln_cpI, hl_cpI, gL_cpI, gR_cpI, gI_cpI, gI_sI, gL_sL, gR_sR, St_sI, St_sL, St_cpI, Nat.reduceEqDiff, Nat.reduceAdd, eq_self, false_and, and_false, true_and, and_true, and_self, if_true, if_false, false_or, or_false, true_or, or_true, not_true_eq_false, not_false_eq_true, reduceIte, K_45, F_45_0, hS, lt, f0, v1, v2, v3, v4, e10, s1, nI_1, List.length_nil, List.length_cons, Nat.zero_le] <;> first | done | decide | omega | fail) | fail) only [B_70_0, e_iconst_0, e_istore_n_2, clr_i, clr_l, clr_a, clr_n, e_gotow, T_70_2, e_iload_n_2, e_sipush_1600, e_ic_ge, e_aload_n_0, G_604, e_if_ne, e_ldc2_7562612, e_call_2, psh_s, psh_n, Option.bind_some, e_if_eq, G_601, G_512, e_iload_n_1, e_call_3, P_512, e_goto, T_70_48, B_70_48, e_ldc2_28832984692515955, G_513, P_513, T_70_80, B_70_80, e_ldc2_1870030194, e_ldc2_474147546227, e_ldc2_1650553459, T_70_110, B_70_110, T_70_118, B_70_118, R_70, T_70_119, B_70_119, e_iinc_2_1, T_70_125, B_70_125, kd_sI, ln_sI, hl_sI, gL_sI, gR_sI, kd_sL, ln_sL, hl_sL, gI_sL, gR_sL, kd_sR, ln_sR, hl_sR, gI_sR, gL_sR, kd_cpI, ln_cpI, hl_cpI, gL_cpI, gR_cpI, gI_cpI, gI_sI, gL_sL, gR_sR, St_sI, St_sL, St_cpI, Nat.reduceEqDiff, Nat.reduceAdd, eq_self, false_and, and_false, true_and, and_true, and_self, if_true, if_false, false_or, or_false, true_or, or_true, not_true_eq_false, not_false_eq_true, reduceIte, K_45, F_45_0, lt, f0, v1, v2, v3, v4, e10, s1, nI_1, List.length_nil, List.length_cons, Nat.zero_le]
    | false =>
      rw [a4, b2i_f] at v4
      rw [a3, a4] at hP
      simp only [Bool.false_eq_true, false_or] at hP
      rw [hP, b2i_t] at v5
      simp (disch := first | assumption | exact b2i_01 _ | decide | omega | (simp only [kd_sI, ln_sI, hl_sI, gL_sI, gR_sI, kd_sL, ln_sL, hl_sL, gI_sL, gR_sL, kd_sR, ln_sR, hl_sR, gI_sR, gL_sR, kd_cpI, ln_cpI, hl_cpI, gL_cpI, gR_cpI, gI_cpI, gI_sI, gL_sL, gR_sR, St_sI, St_sL, St_cpI, Nat.reduceEqDiff, Nat.reduceAdd, eq_self, false_and, and_false, true_and, and_true, and_self, if_true, if_false, false_or, or_false, true_or, or_true, not_true_eq_false, not_false_eq_true, reduceIte, K_45, F_45_0, hS, lt, f0, v1, v2, v3, v4, v5, e10, s1, nI_1, List.length_nil, List.length_cons, Nat.zero_le] <;> first | done | decide | omega | fail) | fail) only [B_70_0, e_iconst_0, e_istore_n_2, clr_i, clr_l, clr_a, clr_n, e_gotow, T_70_2, e_iload_n_2, e_sipush_1600, e_ic_ge, e_aload_n_0, G_604, e_if_ne, e_ldc2_7562612, e_call_2, psh_s, psh_n, Option.bind_some, e_if_eq, G_601, G_512, e_iload_n_1, e_call_3, P_512, e_goto, T_70_48, B_70_48, e_ldc2_28832984692515955, G_513, P_513, T_70_80, B_70_80, e_ldc2_1870030194, e_ldc2_474147546227, e_ldc2_1650553459, T_70_110, B_70_110, T_70_118, B_70_118, R_70, T_70_119, B_70_119, e_iinc_2_1, T_70_125, B_70_125, kd_sI, ln_sI, hl_sI, gL_sI, gR_sI, kd_sL, ln_sL, hl_sL, gI_sL, gR_sL, kd_sR, ln_sR, hl_sR, gI_sR, gL_sR, kd_cpI, ln_cpI, hl_cpI, gL_cpI, gR_cpI, gI_cpI, gI_sI, gL_sL, gR_sR, St_sI, St_sL, St_cpI, Nat.reduceEqDiff, Nat.reduceAdd, eq_self, false_and, and_false, true_and, and_true, and_self, if_true, if_false, false_or, or_false, true_or, or_true, not_true_eq_false, not_false_eq_true, reduceIte, K_45, F_45_0, lt, f0, v1, v2, v3, v4, v5, e10, s1, nI_1, List.length_nil, List.length_cons, Nat.zero_le]
theorem rk_no {n : Nat} {c : Int32} {h : MH} (hS : St h) (f0 : gI h 45 4 = 0) (hn : n < 2147483648) (v1 : cal 53 [.ref 45, .long 7562612] 7 h = some (some (.int 0), h)) (v2 : cal 53 [.ref 45, .long 28832984692515955] 7 h = some (some (.int 0), h)) (v3 : cal 53 [.ref 45, .long 1870030194] 7 h = some (some (.int 0), h)) (v4 : cal 53 [.ref 45, .long 474147546227] 7 h = some (some (.int 0), h)) (v5 : cal 53 [.ref 45, .long 1650553459] 7 h = some (some (.int 0), h)) : rn 70 7 B_70_2 [some (.ref 45), some (.int c), some (.int (nI n))] [] h = some (none, h) := by
  rw [B_70_2]
  by_cases q : n < 1600
  · have lt : ((1600 : Int32) ≤ nI n) = False := (eq_false (by simp (disch := omega) only [nI_lit, nI_add, lt_nI, le_nI, eq_nI] <;> omega) : ((1600 : Int32) ≤ nI n) = False)
    simp (disch := first | assumption | exact b2i_01 _ | decide | omega | (simp only [kd_sI, ln_sI, hl_sI, gL_sI, gR_sI, kd_sL, ln_sL, hl_sL, gI_sL, gR_sL, kd_sR, ln_sR, hl_sR, gI_sR, gL_sR, kd_cpI, ln_cpI, hl_cpI, gL_cpI, gR_cpI, gI_cpI, gI_sI, gL_sL, gR_sR, St_sI, St_sL, St_cpI, Nat.reduceEqDiff, Nat.reduceAdd, eq_self, false_and, and_false, true_and, and_true, and_self, if_true, if_false, false_or, or_false, true_or, or_true, not_true_eq_false, not_false_eq_true, reduceIte, K_45, F_45_0, hS, lt, f0, v1, v2, v3, v4, v5, List.length_nil, List.length_cons, Nat.zero_le] <;> first | done | decide | omega | fail) | fail) only [B_70_0, e_iconst_0, e_istore_n_2, clr_i, clr_l, clr_a, clr_n, e_gotow, T_70_2, e_iload_n_2, e_sipush_1600, e_ic_ge, e_aload_n_0, G_604, e_if_ne, e_ldc2_7562612, e_call_2, psh_s, psh_n, Option.bind_some, e_if_eq, G_601, G_512, e_iload_n_1, e_call_3, P_512, e_goto, T_70_48, B_70_48, e_ldc2_28832984692515955, G_513, P_513, T_70_80, B_70_80, e_ldc2_1870030194, e_ldc2_474147546227, e_ldc2_1650553459, T_70_110, B_70_110, T_70_118, B_70_118, R_70, T_70_119, B_70_119, e_iinc_2_1, T_70_125, B_70_125, kd_sI, ln_sI, hl_sI, gL_sI, gR_sI, kd_sL, ln_sL, hl_sL, gI_sL, gR_sL, kd_sR, ln_sR, hl_sR, gI_sR, gL_sR, kd_cpI, ln_cpI, hl_cpI, gL_cpI, gR_cpI, gI_cpI, gI_sI, gL_sL, gR_sR, St_sI, St_sL, St_cpI, Nat.reduceEqDiff, Nat.reduceAdd, eq_self, false_and, and_false, true_and, and_true, and_self, if_true, if_false, false_or, or_false, true_or, or_true, not_true_eq_false, not_false_eq_true, reduceIte, K_45, F_45_0, lt, f0, v1, v2, v3, v4, v5, List.length_nil, List.length_cons, Nat.zero_le]
  · have lt : ((1600 : Int32) ≤ nI n) = True := (eq_true (by simp (disch := omega) only [nI_lit, nI_add, lt_nI, le_nI, eq_nI] <;> omega) : ((1600 : Int32) ≤ nI n) = True)
    simp (disch := first | assumption | exact b2i_01 _ | decide | omega | (simp only [kd_sI, ln_sI, hl_sI, gL_sI, gR_sI, kd_sL, ln_sL, hl_sL, gI_sL, gR_sL, kd_sR, ln_sR, hl_sR, gI_sR, gL_sR, kd_cpI, ln_cpI, hl_cpI, gL_cpI, gR_cpI, gI_cpI, gI_sI, gL_sL, gR_sR, St_sI, St_sL, St_cpI, Nat.reduceEqDiff, Nat.reduceAdd, eq_self, false_and, and_false, true_and, and_true, and_self, if_true, if_false, false_or, or_false, true_or, or_true, not_true_eq_false, not_false_eq_true, reduceIte, K_45, F_45_0, hS, lt, List.length_nil, List.length_cons, Nat.zero_le] <;> first | done | decide | omega | fail) | fail) only [B_70_0, e_iconst_0, e_istore_n_2, clr_i, clr_l, clr_a, clr_n, e_gotow, T_70_2, e_iload_n_2, e_sipush_1600, e_ic_ge, e_aload_n_0, G_604, e_if_ne, e_ldc2_7562612, e_call_2, psh_s, psh_n, Option.bind_some, e_if_eq, G_601, G_512, e_iload_n_1, e_call_3, P_512, e_goto, T_70_48, B_70_48, e_ldc2_28832984692515955, G_513, P_513, T_70_80, B_70_80, e_ldc2_1870030194, e_ldc2_474147546227, e_ldc2_1650553459, T_70_110, B_70_110, T_70_118, B_70_118, R_70, T_70_119, B_70_119, e_iinc_2_1, T_70_125, B_70_125, kd_sI, ln_sI, hl_sI, gL_sI, gR_sI, kd_sL, ln_sL, hl_sL, gI_sL, gR_sL, kd_sR, ln_sR, hl_sR, gI_sR, gL_sR, kd_cpI, ln_cpI, hl_cpI, gL_cpI, gR_cpI, gI_cpI, gI_sI, gL_sL, gR_sR, St_sI, St_sL, St_cpI, Nat.reduceEqDiff, Nat.reduceAdd, eq_self, false_and, and_false, true_and, and_true, and_self, if_true, if_false, false_or, or_false, true_or, or_true, not_true_eq_false, not_false_eq_true, reduceIte, K_45, F_45_0, lt, List.length_nil, List.length_cons, Nat.zero_le]
theorem rk_bad {n o cc p : Nat} {c : Int32} {h : MH} (hB : BC o cc p h) : rn 70 7 B_70_2 [some (.ref 45), some (.int c), some (.int (nI n))] [] h = some (none, h) := by
  have hS := hB.1
  have nz := hB.nz
  rw [B_70_2]
  by_cases q : (1600 : Int32) ≤ nI n
  · simp (disch := first | assumption | exact b2i_01 _ | decide | omega | (simp only [kd_sI, ln_sI, hl_sI, gL_sI, gR_sI, kd_sL, ln_sL, hl_sL, gI_sL, gR_sL, kd_sR, ln_sR, hl_sR, gI_sR, gL_sR, kd_cpI, ln_cpI, hl_cpI, gL_cpI, gR_cpI, gI_cpI, gI_sI, gL_sL, gR_sR, St_sI, St_sL, St_cpI, Nat.reduceEqDiff, Nat.reduceAdd, eq_self, false_and, and_false, true_and, and_true, and_self, if_true, if_false, false_or, or_false, true_or, or_true, not_true_eq_false, not_false_eq_true, reduceIte, K_45, F_45_0, hS, q, List.length_nil, List.length_cons, Nat.zero_le] <;> first | done | decide | omega | fail) | fail) only [B_70_0, e_iconst_0, e_istore_n_2, clr_i, clr_l, clr_a, clr_n, e_gotow, T_70_2, e_iload_n_2, e_sipush_1600, e_ic_ge, e_aload_n_0, G_604, e_if_ne, e_ldc2_7562612, e_call_2, psh_s, psh_n, Option.bind_some, e_if_eq, G_601, G_512, e_iload_n_1, e_call_3, P_512, e_goto, T_70_48, B_70_48, e_ldc2_28832984692515955, G_513, P_513, T_70_80, B_70_80, e_ldc2_1870030194, e_ldc2_474147546227, e_ldc2_1650553459, T_70_110, B_70_110, T_70_118, B_70_118, R_70, T_70_119, B_70_119, e_iinc_2_1, T_70_125, B_70_125, kd_sI, ln_sI, hl_sI, gL_sI, gR_sI, kd_sL, ln_sL, hl_sL, gI_sL, gR_sL, kd_sR, ln_sR, hl_sR, gI_sR, gL_sR, kd_cpI, ln_cpI, hl_cpI, gL_cpI, gR_cpI, gI_cpI, gI_sI, gL_sL, gR_sR, St_sI, St_sL, St_cpI, Nat.reduceEqDiff, Nat.reduceAdd, eq_self, false_and, and_false, true_and, and_true, and_self, if_true, if_false, false_or, or_false, true_or, or_true, not_true_eq_false, not_false_eq_true, reduceIte, K_45, F_45_0, q, List.length_nil, List.length_cons, Nat.zero_le]
  · simp (disch := first | assumption | exact b2i_01 _ | decide | omega | (simp only [kd_sI, ln_sI, hl_sI, gL_sI, gR_sI, kd_sL, ln_sL, hl_sL, gI_sL, gR_sL, kd_sR, ln_sR, hl_sR, gI_sR, gL_sR, kd_cpI, ln_cpI, hl_cpI, gL_cpI, gR_cpI, gI_cpI, gI_sI, gL_sL, gR_sR, St_sI, St_sL, St_cpI, Nat.reduceEqDiff, Nat.reduceAdd, eq_self, false_and, and_false, true_and, and_true, and_self, if_true, if_false, false_or, or_false, true_or, or_true, not_true_eq_false, not_false_eq_true, reduceIte, K_45, F_45_0, hS, q, nz, List.length_nil, List.length_cons, Nat.zero_le] <;> first | done | decide | omega | fail) | fail) only [B_70_0, e_iconst_0, e_istore_n_2, clr_i, clr_l, clr_a, clr_n, e_gotow, T_70_2, e_iload_n_2, e_sipush_1600, e_ic_ge, e_aload_n_0, G_604, e_if_ne, e_ldc2_7562612, e_call_2, psh_s, psh_n, Option.bind_some, e_if_eq, G_601, G_512, e_iload_n_1, e_call_3, P_512, e_goto, T_70_48, B_70_48, e_ldc2_28832984692515955, G_513, P_513, T_70_80, B_70_80, e_ldc2_1870030194, e_ldc2_474147546227, e_ldc2_1650553459, T_70_110, B_70_110, T_70_118, B_70_118, R_70, T_70_119, B_70_119, e_iinc_2_1, T_70_125, B_70_125, kd_sI, ln_sI, hl_sI, gL_sI, gR_sI, kd_sL, ln_sL, hl_sL, gI_sL, gR_sL, kd_sR, ln_sR, hl_sR, gI_sR, gL_sR, kd_cpI, ln_cpI, hl_cpI, gL_cpI, gR_cpI, gI_cpI, gI_sI, gL_sL, gR_sR, St_sI, St_sL, St_cpI, Nat.reduceEqDiff, Nat.reduceAdd, eq_self, false_and, and_false, true_and, and_true, and_self, if_true, if_false, false_or, or_false, true_or, or_true, not_true_eq_false, not_false_eq_true, reduceIte, K_45, F_45_0, q, nz, List.length_nil, List.length_cons, Nat.zero_le]
theorem lp_marks {x : Txt} {o : Nat} {w : Int64} {T R C : List Int64} {pre : List (Int32 × Int32)} {h0 k0 : MH} (ho : Oo o) : ∀ m i n h k, 1601 ≤ i + m → n ≤ i → n < 100000 → RelM x o i w T R C pre h0 k0 h k → ∃ h' k' l2, rn 70 7 B_70_2 [some (.ref 45), some (.int (nI C.length)), some (.int (nI n))] [] h = some (none, h') ∧ rn 227 8 B_227_87 [some (.ref 66), some (.int (nI C.length)), some (.int 1)] [] k = rn 227 8 B_227_166 [some (.ref 66), some (.int (nI C.length)), some (.int l2)] [] k' ∧ ((∃ i', i ≤ i' ∧ RelM x o i' w T R C pre h0 k0 h' k') ∨ Bad2 o h0 k0 h' k') := by
  intro m
  induction m with
  | zero =>
    intro i n h k hm hn hn2 r
    have hx := r.1.1.1.2.1.1
    have hS := r.1.1.1.1
    have hSk := r.1.1.2.1
    have k0' : tkK (tks x i) = 0 := by
      by_cases c : tkK (tks x i) = 0
      · exact c
      · have := tks_lt hx c; omega
    have v : ∀ W, cal 53 [.ref 45, .long W] 7 h = some (some (.int 0), h) := fun W => by
      have := s_Re_isWord hS r.1.1.1.2.2.1 (tks_5 hx i) W (μ := 7) (by omega)
      rw [decide_eq_false (fun z => by omega), b2i_f] at this
      exact this
    have u : ∀ W, cal 217 [.ref 66, .long W] 8 k = some (some (.int 0), k) := fun W => by
      have := s_Mo_isWord hSk r.1.1.2.2.2.1 (tks_o hx i) W (μ := 8) (by omega)
      rw [decide_eq_false (fun z => by omega), b2i_f] at this
      exact this
    exact ⟨h, k, 0, rk_no hS r.1.1.1.2.2.2.1.1 (by omega) (v _) (v _) (v _) (v _) (v _), rc_Mno hSk r.1.1.2.2.2.2.1 (u _) (u _) (u _) (u _) (u _), Or.inl ⟨i, Nat.le_refl _, r⟩⟩
  | succ m ih =>
    intro i n h k hm hn hn2 r
    have hx := r.1.1.1.2.1.1
    have hS := r.1.1.1.1
    have hSk := r.1.1.2.1
    have v : ∀ W, cal 53 [.ref 45, .long W] 7 h = some (some (.int (b2i (decide (tkK (tks x i) = 2 ∧ tkW (tks x i) = W)))), h) := fun W => s_Re_isWord hS r.1.1.1.2.2.1 (tks_5 hx i) W (μ := 7) (by omega)
    have u : ∀ W, cal 217 [.ref 66, .long W] 8 k = some (some (.int (b2i (decide (tkK (tks x i) = 2 ∧ tkW (tks x i) = W)))), k) := fun W => s_Mo_isWord hSk r.1.1.2.2.2.1 (tks_o hx i) W (μ := 8) (by omega)
    -- one more, and what comes behind
    have more : ∀ h1 k1, tkK (tks x i) = 2 → rn 70 7 B_70_2 [some (.ref 45), some (.int (nI C.length)), some (.int (nI n))] [] h = rn 70 7 B_70_2 [some (.ref 45), some (.int (nI C.length)), some (.int (nI (n + 1)))] [] h1 → rn 227 8 B_227_87 [some (.ref 66), some (.int (nI C.length)), some (.int 1)] [] k = rn 227 8 B_227_87 [some (.ref 66), some (.int (nI C.length)), some (.int 1)] [] k1 → MOut x o i w T R C pre h0 k0 h1 k1 → ∃ h' k' l2, rn 70 7 B_70_2 [some (.ref 45), some (.int (nI C.length)), some (.int (nI n))] [] h = some (none, h') ∧ rn 227 8 B_227_87 [some (.ref 66), some (.int (nI C.length)), some (.int 1)] [] k = rn 227 8 B_227_166 [some (.ref 66), some (.int (nI C.length)), some (.int l2)] [] k' ∧ ((∃ i', i ≤ i' ∧ RelM x o i' w T R C pre h0 k0 h' k') ∨ Bad2 o h0 k0 h' k') := by
      intro h1 k1 hk2 e1 e2 out
      have hlt := tks_lt hx (show ¬ tkK (tks x i) = 0 by omega)
      rw [e1, e2]
      rcases out with ⟨i', hi', r'⟩ | ⟨c, p, b1, b2, b3, b4⟩
      · obtain ⟨h', k', l2, a1, a2, a3⟩ := ih i' (n + 1) h1 k1 (by omega) (by omega) (by omega) r'
        refine ⟨h', k', l2, a1, a2, ?_⟩
        rcases a3 with ⟨i2, q1, q2⟩ | q
        · exact Or.inl ⟨i2, by omega, q2⟩
        · exact Or.inr q
      · exact ⟨h1, k1, 1, rk_bad b1, rc_Mb7 b2, Or.inr ⟨c, p, b1, b2, b3, b4⟩⟩
    by_cases hk : tkK (tks x i) = 2
    · have hlt := tks_lt hx (show ¬ tkK (tks x i) = 0 by omega)
      by_cases w1 : tkW (tks x i) = 7562612
      · obtain ⟨h1, k1, e1, e2, e3⟩ := mk_sf (n := n) ho r (Or.inl ⟨rfl, rfl, w1⟩) hk (by omega)
        exact more h1 k1 hk e1 (rc_Mgo hSk r.1.1.2.2.2.2.1 u (Or.inl (decide_eq_true ⟨hk, w1⟩)) e2) e3
      · by_cases w2 : tkW (tks x i) = 28832984692515955
        · obtain ⟨h1, k1, e1, e2, e3⟩ := mk_sf (n := n) ho r (Or.inr ⟨rfl, rfl, w2⟩) hk (by omega)
          exact more h1 k1 hk e1 (rc_Mgo hSk r.1.1.2.2.2.2.1 u (Or.inr (Or.inl (decide_eq_true ⟨hk, w2⟩))) e2) e3
        · by_cases w3 : tkW (tks x i) = 1870030194 ∨ tkW (tks x i) = 474147546227 ∨ tkW (tks x i) = 1650553459
          · obtain ⟨h1, k1, e1, e2, e3⟩ := mk_link ho r hk w3
            have hP : decide (tkK (tks x i) = 2 ∧ tkW (tks x i) = 1870030194) = true ∨ decide (tkK (tks x i) = 2 ∧ tkW (tks x i) = 474147546227) = true ∨ decide (tkK (tks x i) = 2 ∧ tkW (tks x i) = 1650553459) = true := by
              rcases w3 with z | z | z
              · exact Or.inl (decide_eq_true ⟨hk, z⟩)
              · exact Or.inr (Or.inl (decide_eq_true ⟨hk, z⟩))
              · exact Or.inr (Or.inr (decide_eq_true ⟨hk, z⟩))
            exact more h1 k1 hk (rk_link hS r.1.1.1.2.2.2.1.1 (by omega) v (decide_eq_false (fun z => w1 z.2)) (decide_eq_false (fun z => w2 z.2)) hP e1) (rc_Mgo hSk r.1.1.2.2.2.2.1 u (Or.inr (Or.inr hP)) e2) e3
          · have z1 := v 7562612
            have z2 := v 28832984692515955
            have z3 := v 1870030194
            have z4 := v 474147546227
            have z5 := v 1650553459
            have y1 := u 7562612
            have y2 := u 28832984692515955
            have y3 := u 1870030194
            have y4 := u 474147546227
            have y5 := u 1650553459
            rw [decide_eq_false (fun z => w1 z.2), b2i_f] at z1 y1
            rw [decide_eq_false (fun z => w2 z.2), b2i_f] at z2 y2
            rw [decide_eq_false (fun z => w3 (Or.inl z.2)), b2i_f] at z3 y3
            rw [decide_eq_false (fun z => w3 (Or.inr (Or.inl z.2))), b2i_f] at z4 y4
            rw [decide_eq_false (fun z => w3 (Or.inr (Or.inr z.2))), b2i_f] at z5 y5
            exact ⟨h, k, 0, rk_no hS r.1.1.1.2.2.2.1.1 (by omega) z1 z2 z3 z4 z5, rc_Mno hSk r.1.1.2.2.2.2.1 y1 y2 y3 y4 y5, Or.inl ⟨i, Nat.le_refl _, r⟩⟩
    · have v' : ∀ W, cal 53 [.ref 45, .long W] 7 h = some (some (.int 0), h) := fun W => by
        have := v W
        rw [decide_eq_false (fun z => hk z.1), b2i_f] at this
        exact this
      have u' : ∀ W, cal 217 [.ref 66, .long W] 8 k = some (some (.int 0), k) := fun W => by
        have := u W
        rw [decide_eq_false (fun z => hk z.1), b2i_f] at this
        exact this
      exact ⟨h, k, 0, rk_no hS r.1.1.1.2.2.2.1.1 (by omega) (v' _) (v' _) (v' _) (v' _) (v' _), rc_Mno hSk r.1.1.2.2.2.2.1 (u' _) (u' _) (u' _) (u' _) (u' _), Or.inl ⟨i, Nat.le_refl _, r⟩⟩
/-- a clause's row is begun -/
theorem s_Or_startClause {o c t v : Nat} {R C : List Int64} {h : MH} (hS : St h) (ho : Oo o) (NR : NmC (o + 4) 3 R h) (NC : NmC (o + 8) 12 C h) (hc : C.length = c) (hc2 : c < 12) (ht : t < R.length) (m : Int32) (hm : gI h (o + 7) t = m) {μ : Nat} (hμ : 4 < μ) : cal 69 [.ref o, .int (nI t), .int (nI v)] μ h = some (none, sI (sI (sI h (o + 10) c (nI t)) (o + 11) c (nI v)) (o + 7) t (m ||| one c)) := by
  have e10 : ((1 : Int32) = 0) = False := by simp
  have hR := NR.2.1
  have full := s_Na_isFull NC (μ := 4) (by omega)
  rw [decide_eq_false (by omega), b2i_f] at full
  have has : cal 16 [.ref (o + 4), .int (nI t)] 4 h = some (some (.int 1), h) := by
    have n2 := NR.2.2.1
    rw [C_16 (o + 4) _ 4 h NR.1.1 NR.1.2.1 (by omega)]
    have n0 := nI_nneg (show t < 2147483648 by omega)
    simp (disch := first | assumption | exact b2i_01 _ | decide | omega | (simp only [kd_sI, ln_sI, hl_sI, gL_sI, gR_sI, kd_sL, ln_sL, hl_sL, gI_sL, gR_sL, kd_sR, ln_sR, hl_sR, gI_sR, gL_sR, kd_cpI, ln_cpI, hl_cpI, gL_cpI, gR_cpI, gI_cpI, gI_sI, gL_sL, gR_sR, St_sI, St_sL, St_cpI, Nat.reduceEqDiff, Nat.reduceAdd, eq_self, false_and, and_false, true_and, and_true, and_self, if_true, if_false, false_or, or_false, true_or, or_true, not_true_eq_false, not_false_eq_true, reduceIte, KO_0, KO_1, KO_2, NO_2, KO_3, NO_3, KO_4, KO_5, NO_5, KO_6, NO_6, KO_7, NO_7, KO_8, KO_9, NO_9, KO_10, NO_10, KO_11, NO_11, KO_12, NO_12, KO_13, NO_13, KO_14, NO_14, KO_15, KO_16, NO_16, KO_17, NO_17, KO_18, NO_18, KO_19, NO_19, FO_0_0, FO_0_1, FO_0_2, FO_0_3, FO_0_4, FO_0_5, FO_0_6, FO_0_7, FO_0_8, FO_0_9, FO_0_10, FO_0_11, FO_1_0, FO_4_0, FO_8_0, FO_15_0, FO_15_2, FO_15_3, FO_15_4, Oo_2, Oo_p, hS, ho, n2, n0, (eq_false (by simp (disch := omega) only [nI_lit, nI_add, lt_nI, le_nI, eq_nI] <;> omega) : (nI R.length ≤ nI t) = False)] <;> first | done | decide | omega | fail) | fail) only [B_16_0, e_iload_n_1, e_if_lt, e_aload_n_0, G_401, e_ic_ge, e_iconst_1, e_goto, T_16_16, B_16_16, e_iconst_0, e_gotow, T_16_17, B_16_17, R_16, eq_self, true_or, or_true, b2i_or, kd_sI, ln_sI, hl_sI, gL_sI, gR_sI, kd_sL, ln_sL, hl_sL, gI_sL, gR_sL, kd_sR, ln_sR, hl_sR, gI_sR, gL_sR, kd_cpI, ln_cpI, hl_cpI, gL_cpI, gR_cpI, gI_cpI, gI_sI, gL_sL, gR_sR, St_sI, St_sL, St_cpI, Nat.reduceEqDiff, Nat.reduceAdd, eq_self, false_and, and_false, true_and, and_true, and_self, if_true, if_false, false_or, or_false, true_or, or_true, not_true_eq_false, not_false_eq_true, reduceIte, KO_0, KO_1, KO_2, NO_2, KO_3, NO_3, KO_4, KO_5, NO_5, KO_6, NO_6, KO_7, NO_7, KO_8, KO_9, NO_9, KO_10, NO_10, KO_11, NO_11, KO_12, NO_12, KO_13, NO_13, KO_14, NO_14, KO_15, KO_16, NO_16, KO_17, NO_17, KO_18, NO_18, KO_19, NO_19, FO_0_0, FO_0_1, FO_0_2, FO_0_3, FO_0_4, FO_0_5, FO_0_6, FO_0_7, FO_0_8, FO_0_9, FO_0_10, FO_0_11, FO_1_0, FO_4_0, FO_8_0, FO_15_0, FO_15_2, FO_15_3, FO_15_4, Oo_2, Oo_p, ho, n2, n0, (eq_false (by simp (disch := omega) only [nI_lit, nI_add, lt_nI, le_nI, eq_nI] <;> omega) : (nI R.length ≤ nI t) = False)]
  have cC := NC.2.2.1
  rw [hc] at cC
  have bc : inBd (nI c) 12 = true := inBd_nI (by omega) (by omega)
  have tc := tc_nI (show c < 2147483648 by omega)
  have bt' : inBd (nI t) 3 = true := inBd_nI (by omega) (by omega)
  have tt := tc_nI (show t < 2147483648 by omega)
  have e1 : (1 : Int32) <<< (nI c &&& 31) = one c := rfl
  rw [C_69 o _ _ μ h (KO_0 hS ho) (Oo_2 ho) hμ]
  rcases ho with rfl | rfl
  · simp (disch := first | assumption | exact b2i_01 _ | decide | omega | (simp only [kd_sI, ln_sI, hl_sI, gL_sI, gR_sI, kd_sL, ln_sL, hl_sL, gI_sL, gR_sL, kd_sR, ln_sR, hl_sR, gI_sR, gL_sR, kd_cpI, ln_cpI, hl_cpI, gL_cpI, gR_cpI, gI_cpI, gI_sI, gL_sL, gR_sR, St_sI, St_sL, St_cpI, Nat.reduceEqDiff, Nat.reduceAdd, eq_self, false_and, and_false, true_and, and_true, and_self, if_true, if_false, false_or, or_false, true_or, or_true, not_true_eq_false, not_false_eq_true, reduceIte, K_3, F_3_0, F_3_1, F_3_2, F_3_3, F_3_4, F_3_5, F_3_6, F_3_7, F_3_8, F_3_9, F_3_10, F_3_11, K_7, F_7_0, K_10, N_10, K_11, F_11_0, K_13, N_13, K_14, N_14, hS, full, has, e10, cC, bc, tc, bt', tt, hm, e1, List.length_nil, List.length_cons, Nat.zero_le] <;> first | done | decide | omega | fail) | fail) only [B_69_0, e_aload_n_0, G_505, e_call_1, psh_s, psh_n, Option.bind_some, e_if_ne, G_502, e_iload_n_1, e_call_2, e_if_eq, G_401, e_istore_n_3, clr_i, clr_l, clr_a, clr_n, G_506, e_iload_n_3, e_iastore, G_507, e_iload_n_2, G_504, e_dup2, e_iaload, e_iconst_1, e_ishl, e_ior, e_gotow, T_69_55, B_69_55, R_69, kd_sI, ln_sI, hl_sI, gL_sI, gR_sI, kd_sL, ln_sL, hl_sL, gI_sL, gR_sL, kd_sR, ln_sR, hl_sR, gI_sR, gL_sR, kd_cpI, ln_cpI, hl_cpI, gL_cpI, gR_cpI, gI_cpI, gI_sI, gL_sL, gR_sR, St_sI, St_sL, St_cpI, Nat.reduceEqDiff, Nat.reduceAdd, eq_self, false_and, and_false, true_and, and_true, and_self, if_true, if_false, false_or, or_false, true_or, or_true, not_true_eq_false, not_false_eq_true, reduceIte, K_3, F_3_0, F_3_1, F_3_2, F_3_3, F_3_4, F_3_5, F_3_6, F_3_7, F_3_8, F_3_9, F_3_10, F_3_11, K_7, F_7_0, K_10, N_10, K_11, F_11_0, K_13, N_13, K_14, N_14, full, has, e10, cC, bc, tc, bt', tt, hm, e1, List.length_nil, List.length_cons, Nat.zero_le]
  · simp (disch := first | assumption | exact b2i_01 _ | decide | omega | (simp only [kd_sI, ln_sI, hl_sI, gL_sI, gR_sI, kd_sL, ln_sL, hl_sL, gI_sL, gR_sL, kd_sR, ln_sR, hl_sR, gI_sR, gL_sR, kd_cpI, ln_cpI, hl_cpI, gL_cpI, gR_cpI, gI_cpI, gI_sI, gL_sL, gR_sR, St_sI, St_sL, St_cpI, Nat.reduceEqDiff, Nat.reduceAdd, eq_self, false_and, and_false, true_and, and_true, and_self, if_true, if_false, false_or, or_false, true_or, or_true, not_true_eq_false, not_false_eq_true, reduceIte, K_23, F_23_0, F_23_1, F_23_2, F_23_3, F_23_4, F_23_5, F_23_6, F_23_7, F_23_8, F_23_9, F_23_10, F_23_11, K_27, F_27_0, K_30, N_30, K_31, F_31_0, K_33, N_33, K_34, N_34, hS, full, has, e10, cC, bc, tc, bt', tt, hm, e1, List.length_nil, List.length_cons, Nat.zero_le] <;> first | done | decide | omega | fail) | fail) only [B_69_0, e_aload_n_0, G_505, e_call_1, psh_s, psh_n, Option.bind_some, e_if_ne, G_502, e_iload_n_1, e_call_2, e_if_eq, G_401, e_istore_n_3, clr_i, clr_l, clr_a, clr_n, G_506, e_iload_n_3, e_iastore, G_507, e_iload_n_2, G_504, e_dup2, e_iaload, e_iconst_1, e_ishl, e_ior, e_gotow, T_69_55, B_69_55, R_69, kd_sI, ln_sI, hl_sI, gL_sI, gR_sI, kd_sL, ln_sL, hl_sL, gI_sL, gR_sL, kd_sR, ln_sR, hl_sR, gI_sR, gL_sR, kd_cpI, ln_cpI, hl_cpI, gL_cpI, gR_cpI, gI_cpI, gI_sI, gL_sL, gR_sR, St_sI, St_sL, St_cpI, Nat.reduceEqDiff, Nat.reduceAdd, eq_self, false_and, and_false, true_and, and_true, and_self, if_true, if_false, false_or, or_false, true_or, or_true, not_true_eq_false, not_false_eq_true, reduceIte, K_23, F_23_0, F_23_1, F_23_2, F_23_3, F_23_4, F_23_5, F_23_6, F_23_7, F_23_8, F_23_9, F_23_10, F_23_11, K_27, F_27_0, K_30, N_30, K_31, F_31_0, K_33, N_33, K_34, N_34, full, has, e10, cC, bc, tc, bt', tt, hm, e1, List.length_nil, List.length_cons, Nat.zero_le]
