theorem lp_Mo_cnt {C s0 : Nat} {E : List Ent} {h : MH} {t cl k : Int32} (hS : St h) (hQ : BqM E h) (w : Wl C s0 E) (hC : C ≤ 12) : ∀ m j e n, j ≤ m → E[j]? = some e → n + j ≤ 4096 → rn 306 5 B_306_48 [some (.ref 66), some (.int t), some (.int cl), some (.int k), some (.int (nI n)), some (.int (nI j))] [] h = rn 306 5 B_306_73 [some (.ref 66), some (.int t), some (.int cl), some (.int k), some (.int (nI (n + (pt E j).length))), some (.int (nI 0))] [] h := by
  have h12 := pw12 hC
  have wlen := w.len
  have base : ∀ e n, E[0]? = some e → rn 306 5 B_306_48 [some (.ref 66), some (.int t), some (.int cl), some (.int k), some (.int (nI n)), some (.int (nI 0))] [] h = rn 306 5 B_306_73 [some (.ref 66), some (.int t), some (.int cl), some (.int k), some (.int (nI (n + (pt E 0).length))), some (.int (nI 0))] [] h := by
    intro e n he
    have v := (hQ.2.1 0 e he).2.1
    rw [if_pos rfl] at v
    have b0 : inBd (nI 0) 4096 = true := by decide
    have t0 : (nI 0).toNatClampNeg = 0 := by decide
    have m1 : ((-1 : Int32) < 0) = True := by decide
    rw [B_306_48]
    simp (disch := first | assumption | exact b2i_01 _ | decide | omega | (simp only [kd_sI, ln_sI, hl_sI, gL_sI, gR_sI, kd_sL, ln_sL, hl_sL, gI_sL, gR_sL, kd_sR, ln_sR, hl_sR, gI_sR, gL_sR, kd_cpI, ln_cpI, hl_cpI, gL_cpI, gR_cpI, gI_cpI, gI_sI, gL_sL, gR_sR, St_sI, St_sL, St_cpI, Nat.reduceEqDiff, Nat.reduceAdd, eq_self, false_and, and_false, true_and, and_true, and_self, if_true, if_false, false_or, or_false, true_or, or_true, not_true_eq_false, not_false_eq_true, reduceIte, K_66, F_66_0, F_66_10, F_66_11, F_66_12, F_66_13, F_66_14, F_66_15, F_66_16, F_66_17, F_66_18, F_66_25, F_66_26, F_66_27, F_66_28, F_66_29, F_66_30, F_66_31, F_66_32, F_66_33, F_66_34, F_66_35, F_66_36, F_66_37, F_66_38, F_66_39, F_66_60, F_66_61, F_66_62, F_66_63, F_66_66, F_66_68, F_66_69, F_66_71, F_66_72, F_66_73, F_66_74, F_66_77, F_66_78, F_66_79, F_66_80, F_66_81, F_66_84, F_66_85, F_66_86, F_66_87, K_100, N_100, hS, b0, t0, v, m1] <;> first | done | decide | omega | fail) | fail) only [B_306_0, e_aload_n_0, e_iconst_0, P_1267, e_iload_n_1, e_call_2, psh_s, psh_n, Option.bind_some, e_if_eq, e_iload_n_2, G_1239, e_iaload, e_iconst_m1, e_ixor, e_iand, e_gotow, T_306_26, B_306_26, e_bipush_m2, R_306, T_306_29, B_306_29, e_call_3, e_istore_n_3, clr_i, clr_l, clr_a, clr_n, e_iload_n_3, e_if_ge, T_306_42, B_306_42, e_istore_4, e_istore_5, T_306_48, G_1272, e_iload_5, e_if_lt, e_iinc_4_1, e_goto, T_306_73, e_iload_4, T_306_82, B_306_82, e_iinc_4_m1, G_1266, G_1273, e_iastore, T_306_121, B_306_121, G_1267, kd_sI, ln_sI, hl_sI, gL_sI, gR_sI, kd_sL, ln_sL, hl_sL, gI_sL, gR_sL, kd_sR, ln_sR, hl_sR, gI_sR, gL_sR, kd_cpI, ln_cpI, hl_cpI, gL_cpI, gR_cpI, gI_cpI, gI_sI, gL_sL, gR_sR, St_sI, St_sL, St_cpI, Nat.reduceEqDiff, Nat.reduceAdd, eq_self, false_and, and_false, true_and, and_true, and_self, if_true, if_false, false_or, or_false, true_or, or_true, not_true_eq_false, not_false_eq_true, reduceIte, K_66, F_66_0, F_66_10, F_66_11, F_66_12, F_66_13, F_66_14, F_66_15, F_66_16, F_66_17, F_66_18, F_66_25, F_66_26, F_66_27, F_66_28, F_66_29, F_66_30, F_66_31, F_66_32, F_66_33, F_66_34, F_66_35, F_66_36, F_66_37, F_66_38, F_66_39, F_66_60, F_66_61, F_66_62, F_66_63, F_66_66, F_66_68, F_66_69, F_66_71, F_66_72, F_66_73, F_66_74, F_66_77, F_66_78, F_66_79, F_66_80, F_66_81, F_66_84, F_66_85, F_66_86, F_66_87, K_100, N_100, b0, t0, v, m1]
    rfl
  intro m
  induction m with
  | zero =>
    intro j e n hj he hn
    obtain rfl : j = 0 := by omega
    exact base e n he
  | succ m ih =>
    intro j e n hj he hn
    rcases Nat.eq_zero_or_pos j with z | z
    · subst z; exact base e n he
    · have hjl : j < E.length := by
        rcases Nat.lt_or_ge j E.length with q | q
        · exact q
        · rw [List.getElem?_eq_none q] at he; cases he
      obtain ⟨r1, r2, e', r3, r4⟩ := w.2.2.2 j e he z
      have v := (hQ.2.1 j e he).2.1
      rw [if_neg (by omega)] at v
      have g := ih e.2.1 e' (n + 1) (by omega) r3 (by omega)
      have bj : inBd (nI j) 4096 = true := inBd_nI (by omega) (by omega)
      have tj := tc_nI (show j < 2147483648 by omega)
      have m1 := nI_nneg (show e.2.1 < 2147483648 by omega)
      rw [pt_s w he z, List.length_append, show n + ((pt E e.2.1).length + [e.2.2].length) = n + 1 + (pt E e.2.1).length by simp; omega, B_306_48]
      simp (disch := first | assumption | exact b2i_01 _ | decide | omega | (simp only [kd_sI, ln_sI, hl_sI, gL_sI, gR_sI, kd_sL, ln_sL, hl_sL, gI_sL, gR_sL, kd_sR, ln_sR, hl_sR, gI_sR, gL_sR, kd_cpI, ln_cpI, hl_cpI, gL_cpI, gR_cpI, gI_cpI, gI_sI, gL_sL, gR_sR, St_sI, St_sL, St_cpI, Nat.reduceEqDiff, Nat.reduceAdd, eq_self, false_and, and_false, true_and, and_true, and_self, if_true, if_false, false_or, or_false, true_or, or_true, not_true_eq_false, not_false_eq_true, reduceIte, K_66, F_66_0, F_66_10, F_66_11, F_66_12, F_66_13, F_66_14, F_66_15, F_66_16, F_66_17, F_66_18, F_66_25, F_66_26, F_66_27, F_66_28, F_66_29, F_66_30, F_66_31, F_66_32, F_66_33, F_66_34, F_66_35, F_66_36, F_66_37, F_66_38, F_66_39, F_66_60, F_66_61, F_66_62, F_66_63, F_66_66, F_66_68, F_66_69, F_66_71, F_66_72, F_66_73, F_66_74, F_66_77, F_66_78, F_66_79, F_66_80, F_66_81, F_66_84, F_66_85, F_66_86, F_66_87, K_100, N_100, hS, bj, tj, v, m1, nI_1, g] <;> first | done | decide | omega | fail) | fail) only [B_306_0, e_aload_n_0, e_iconst_0, P_1267, e_iload_n_1, e_call_2, psh_s, psh_n, Option.bind_some, e_if_eq, e_iload_n_2, G_1239, e_iaload, e_iconst_m1, e_ixor, e_iand, e_gotow, T_306_26, B_306_26, e_bipush_m2, R_306, T_306_29, B_306_29, e_call_3, e_istore_n_3, clr_i, clr_l, clr_a, clr_n, e_iload_n_3, e_if_ge, T_306_42, B_306_42, e_istore_4, e_istore_5, T_306_48, G_1272, e_iload_5, e_if_lt, e_iinc_4_1, e_goto, T_306_73, e_iload_4, T_306_82, B_306_82, e_iinc_4_m1, G_1266, G_1273, e_iastore, T_306_121, B_306_121, G_1267, kd_sI, ln_sI, hl_sI, gL_sI, gR_sI, kd_sL, ln_sL, hl_sL, gI_sL, gR_sL, kd_sR, ln_sR, hl_sR, gI_sR, gL_sR, kd_cpI, ln_cpI, hl_cpI, gL_cpI, gR_cpI, gI_cpI, gI_sI, gL_sL, gR_sR, St_sI, St_sL, St_cpI, Nat.reduceEqDiff, Nat.reduceAdd, eq_self, false_and, and_false, true_and, and_true, and_self, if_true, if_false, false_or, or_false, true_or, or_true, not_true_eq_false, not_false_eq_true, reduceIte, K_66, F_66_0, F_66_10, F_66_11, F_66_12, F_66_13, F_66_14, F_66_15, F_66_16, F_66_17, F_66_18, F_66_25, F_66_26, F_66_27, F_66_28, F_66_29, F_66_30, F_66_31, F_66_32, F_66_33, F_66_34, F_66_35, F_66_36, F_66_37, F_66_38, F_66_39, F_66_60, F_66_61, F_66_62, F_66_63, F_66_66, F_66_68, F_66_69, F_66_71, F_66_72, F_66_73, F_66_74, F_66_77, F_66_78, F_66_79, F_66_80, F_66_81, F_66_84, F_66_85, F_66_86, F_66_87, K_100, N_100, bj, tj, v, m1, nI_1, g]
theorem lp_Mo_way {C s0 : Nat} {E : List Ent} {t cl k : Int32} (w : Wl C s0 E) (hC : C ≤ 12) : ∀ m j e T h, j ≤ m → E[j]? = some e → St h → BqM E h → (∀ (i x : Nat), T[i]? = some x → gI h 96 ((pt E j).length + i) = nI x) → ∃ h', rn 306 5 B_306_82 [some (.ref 66), some (.int t), some (.int cl), some (.int k), some (.int (nI (pt E j).length)), some (.int (nI j))] [] h = some (some (.int (gI h 66 67)), h') ∧ Sm h h' [(96, none)] ∧ ∀ (i x : Nat), (pt E j ++ T)[i]? = some x → gI h' 96 i = nI x := by
  have h12 := pw12 hC
  have wlen := w.len
  have base : ∀ e (T : List Nat) h, E[0]? = some e → St h → BqM E h → (∀ (i x : Nat), T[i]? = some x → gI h 96 ((pt E 0).length + i) = nI x) → ∃ h', rn 306 5 B_306_82 [some (.ref 66), some (.int t), some (.int cl), some (.int k), some (.int (nI (pt E 0).length)), some (.int (nI 0))] [] h = some (some (.int (gI h 66 67)), h') ∧ Sm h h' [(96, none)] ∧ ∀ (i x : Nat), (pt E 0 ++ T)[i]? = some x → gI h' 96 i = nI x := by
    intro e T h he hS hQ hT
    have v := (hQ.2.1 0 e he).2.1
    rw [if_pos rfl] at v
    have b0 : inBd (nI 0) 4096 = true := by decide
    have t0 : (nI 0).toNatClampNeg = 0 := by decide
    have m1 : ((-1 : Int32) < 0) = True := by decide
    refine ⟨h, ?_, Sm.rf h _, fun i x hx => ?_⟩
    · rw [B_306_82]
      simp (disch := first | assumption | exact b2i_01 _ | decide | omega | (simp only [kd_sI, ln_sI, hl_sI, gL_sI, gR_sI, kd_sL, ln_sL, hl_sL, gI_sL, gR_sL, kd_sR, ln_sR, hl_sR, gI_sR, gL_sR, kd_cpI, ln_cpI, hl_cpI, gL_cpI, gR_cpI, gI_cpI, gI_sI, gL_sL, gR_sR, St_sI, St_sL, St_cpI, Nat.reduceEqDiff, Nat.reduceAdd, eq_self, false_and, and_false, true_and, and_true, and_self, if_true, if_false, false_or, or_false, true_or, or_true, not_true_eq_false, not_false_eq_true, reduceIte, K_66, F_66_0, F_66_10, F_66_11, F_66_12, F_66_13, F_66_14, F_66_15, F_66_16, F_66_17, F_66_18, F_66_25, F_66_26, F_66_27, F_66_28, F_66_29, F_66_30, F_66_31, F_66_32, F_66_33, F_66_34, F_66_35, F_66_36, F_66_37, F_66_38, F_66_39, F_66_60, F_66_61, F_66_62, F_66_63, F_66_66, F_66_68, F_66_69, F_66_71, F_66_72, F_66_73, F_66_74, F_66_77, F_66_78, F_66_79, F_66_80, F_66_81, F_66_84, F_66_85, F_66_86, F_66_87, K_100, N_100, hS, b0, t0, v, m1] <;> first | done | decide | omega | fail) | fail) only [B_306_0, e_aload_n_0, e_iconst_0, P_1267, e_iload_n_1, e_call_2, psh_s, psh_n, Option.bind_some, e_if_eq, e_iload_n_2, G_1239, e_iaload, e_iconst_m1, e_ixor, e_iand, e_gotow, T_306_26, B_306_26, e_bipush_m2, R_306, T_306_29, B_306_29, e_call_3, e_istore_n_3, clr_i, clr_l, clr_a, clr_n, e_iload_n_3, e_if_ge, T_306_42, B_306_42, e_istore_4, e_istore_5, T_306_48, B_306_48, G_1272, e_iload_5, e_if_lt, e_iinc_4_1, e_goto, T_306_73, B_306_73, e_iload_4, T_306_82, e_iinc_4_m1, G_1266, G_1273, e_iastore, T_306_121, B_306_121, G_1267, kd_sI, ln_sI, hl_sI, gL_sI, gR_sI, kd_sL, ln_sL, hl_sL, gI_sL, gR_sL, kd_sR, ln_sR, hl_sR, gI_sR, gL_sR, kd_cpI, ln_cpI, hl_cpI, gL_cpI, gR_cpI, gI_cpI, gI_sI, gL_sL, gR_sR, St_sI, St_sL, St_cpI, Nat.reduceEqDiff, Nat.reduceAdd, eq_self, false_and, and_false, true_and, and_true, and_self, if_true, if_false, false_or, or_false, true_or, or_true, not_true_eq_false, not_false_eq_true, reduceIte, K_66, F_66_0, F_66_10, F_66_11, F_66_12, F_66_13, F_66_14, F_66_15, F_66_16, F_66_17, F_66_18, F_66_25, F_66_26, F_66_27, F_66_28, F_66_29, F_66_30, F_66_31, F_66_32, F_66_33, F_66_34, F_66_35, F_66_36, F_66_37, F_66_38, F_66_39, F_66_60, F_66_61, F_66_62, F_66_63, F_66_66, F_66_68, F_66_69, F_66_71, F_66_72, F_66_73, F_66_74, F_66_77, F_66_78, F_66_79, F_66_80, F_66_81, F_66_84, F_66_85, F_66_86, F_66_87, K_100, N_100, b0, t0, v, m1]
    · have := hT i x hx
      rwa [show (pt E 0).length + i = i by show 0 + i = i; omega] at this
  intro m
  induction m with
  | zero =>
    intro j e T h hj he hS hQ hT
    obtain rfl : j = 0 := by omega
    exact base e T h he hS hQ hT
  | succ m ih =>
    intro j e T h hj he hS hQ hT
    rcases Nat.eq_zero_or_pos j with z | z
    · subst z; exact base e T h he hS hQ hT
    · have hjl : j < E.length := by
        rcases Nat.lt_or_ge j E.length with q | q
        · exact q
        · rw [List.getElem?_eq_none q] at he; cases he
      obtain ⟨r1, r2, e', r3, r4⟩ := w.2.2.2 j e he z
      have vv := hQ.2.1 j e he
      rw [if_neg (by omega), if_neg (by omega)] at vv
      obtain ⟨-, v, v2⟩ := vv
      have ps := pt_s w he z
      obtain ⟨q, eq⟩ : ∃ q, q = (pt E e.2.1).length := ⟨_, rfl⟩
      have hpl : (pt E j).length = q + 1 := by rw [ps, List.length_append, eq]; rfl
      have pll := pt_len w j j (Nat.le_refl _) hjl
      have m1' : nI (q + 1) + (-1) = nI q := pk_m1 q
      obtain ⟨h1, eh1⟩ : ∃ h1, h1 = sI h 96 q (nI e.2.2) := ⟨_, rfl⟩
      have s1 : Sm h h1 [(96, none)] := by rw [eh1]; exact (Sm.rf h _).sI rfl
      have hS1 : St h1 := by rw [eh1]; exact hS
      have hQ1 : BqM E h1 := ⟨by rw [s1.I rfl]; exact hQ.1, fun j e he => by rw [s1.I rfl, s1.I rfl, s1.I rfl]; exact hQ.2.1 j e he, fun s hs => by rw [s1.I rfl]; exact hQ.2.2 s hs⟩
      obtain ⟨h2, g, s2, p2⟩ := ih e.2.1 e' (e.2.2 :: T) h1 (by omega) r3 hS1 hQ1 (fun i x hx => by
        rw [← eq, eh1, gI_sI]
        cases i with
        | zero =>
          have : e.2.2 = x := by simpa using hx
          rw [if_pos ⟨rfl, by omega⟩, this]
        | succ i =>
          have hx' : T[i]? = some x := by simpa using hx
          rw [if_neg (fun y => by omega)]
          have := hT i x hx'
          rw [hpl] at this
          rwa [show q + 1 + i = q + (i + 1) by omega] at this)
      rw [← eq, s1.I rfl, eh1] at g
      refine ⟨h2, ?_, s1.trans s2, fun i x hx => ?_⟩
      · have bj : inBd (nI j) 4096 = true := inBd_nI (by omega) (by omega)
        have tj := tc_nI (show j < 2147483648 by omega)
        have bq : inBd (nI q) 4096 = true := inBd_nI (by omega) (by omega)
        have tq := tc_nI (show q < 2147483648 by omega)
        have m1 := nI_nneg (show e.2.1 < 2147483648 by omega)
        rw [hpl, B_306_82]
        simp (disch := first | assumption | exact b2i_01 _ | decide | omega | (simp only [kd_sI, ln_sI, hl_sI, gL_sI, gR_sI, kd_sL, ln_sL, hl_sL, gI_sL, gR_sL, kd_sR, ln_sR, hl_sR, gI_sR, gL_sR, kd_cpI, ln_cpI, hl_cpI, gL_cpI, gR_cpI, gI_cpI, gI_sI, gL_sL, gR_sR, St_sI, St_sL, St_cpI, Nat.reduceEqDiff, Nat.reduceAdd, eq_self, false_and, and_false, true_and, and_true, and_self, if_true, if_false, false_or, or_false, true_or, or_true, not_true_eq_false, not_false_eq_true, reduceIte, K_66, F_66_0, F_66_10, F_66_11, F_66_12, F_66_13, F_66_14, F_66_15, F_66_16, F_66_17, F_66_18, F_66_25, F_66_26, F_66_27, F_66_28, F_66_29, F_66_30, F_66_31, F_66_32, F_66_33, F_66_34, F_66_35, F_66_36, F_66_37, F_66_38, F_66_39, F_66_60, F_66_61, F_66_62, F_66_63, F_66_66, F_66_68, F_66_69, F_66_71, F_66_72, F_66_73, F_66_74, F_66_77, F_66_78, F_66_79, F_66_80, F_66_81, F_66_84, F_66_85, F_66_86, F_66_87, K_96, N_96, K_100, N_100, K_101, N_101, hS, bj, tj, bq, tq, v, v2, m1, m1', g] <;> first | done | decide | omega | fail) | fail) only [B_306_0, e_aload_n_0, e_iconst_0, P_1267, e_iload_n_1, e_call_2, psh_s, psh_n, Option.bind_some, e_if_eq, e_iload_n_2, G_1239, e_iaload, e_iconst_m1, e_ixor, e_iand, e_gotow, T_306_26, B_306_26, e_bipush_m2, R_306, T_306_29, B_306_29, e_call_3, e_istore_n_3, clr_i, clr_l, clr_a, clr_n, e_iload_n_3, e_if_ge, T_306_42, B_306_42, e_istore_4, e_istore_5, T_306_48, B_306_48, G_1272, e_iload_5, e_if_lt, e_iinc_4_1, e_goto, T_306_73, B_306_73, e_iload_4, T_306_82, e_iinc_4_m1, G_1266, G_1273, e_iastore, T_306_121, B_306_121, G_1267, kd_sI, ln_sI, hl_sI, gL_sI, gR_sI, kd_sL, ln_sL, hl_sL, gI_sL, gR_sL, kd_sR, ln_sR, hl_sR, gI_sR, gL_sR, kd_cpI, ln_cpI, hl_cpI, gL_cpI, gR_cpI, gI_cpI, gI_sI, gL_sL, gR_sR, St_sI, St_sL, St_cpI, Nat.reduceEqDiff, Nat.reduceAdd, eq_self, false_and, and_false, true_and, and_true, and_self, if_true, if_false, false_or, or_false, true_or, or_true, not_true_eq_false, not_false_eq_true, reduceIte, K_66, F_66_0, F_66_10, F_66_11, F_66_12, F_66_13, F_66_14, F_66_15, F_66_16, F_66_17, F_66_18, F_66_25, F_66_26, F_66_27, F_66_28, F_66_29, F_66_30, F_66_31, F_66_32, F_66_33, F_66_34, F_66_35, F_66_36, F_66_37, F_66_38, F_66_39, F_66_60, F_66_61, F_66_62, F_66_63, F_66_66, F_66_68, F_66_69, F_66_71, F_66_72, F_66_73, F_66_74, F_66_77, F_66_78, F_66_79, F_66_80, F_66_81, F_66_84, F_66_85, F_66_86, F_66_87, K_96, N_96, K_100, N_100, K_101, N_101, bj, tj, bq, tq, v, v2, m1, m1', g]
      · apply p2 i x
        rw [ps, List.append_assoc] at hx
        exact hx
/-- what holds again behind a way -/
theorem INV.reached {o p b : Nat} {L : LD} {P : List Nat} {h h3 h7 : MH} (hI : INV o p L h) (fr : Fr h h3 [(2, some 9), (52, none), (64, none), (65, none)]) (hSr : Srh h3) (hRo : Rom h3) (r : gR h3 64 0 = .ref b) (hb : b = 65 ∨ 112 ≤ b) (kb : kd h3 b = 20) (lb : ln h3 b = 40 ∨ ln h3 b = 4096) (pl : P.length ≤ ln h3 b) (c : gI h3 64 1 = nI P.length) (vb : ∀ (i x : Nat), P[i]? = some x → gI h3 b i = nI x) (s : Sm h3 h7 [(66, some 67), (66, some 75), (96, none), (99, none), (100, none), (101, none), (102, none)]) (hQ : QI o p L h7) (c7 : gI h7 66 67 = nI P.length) (v7 : ∀ (i x : Nat), P[i]? = some x → gI h7 96 i = nI x) : INV o p L h7 := by
  refine hI.setL hQ (l := [(2, some 9), (52, none), (64, none), (65, none), (66, some 67), (66, some 75), (96, none), (99, none), (100, none), (101, none), (102, none)]) ((fr.mono (by decide)).trans (s.fr.mono (by decide))) (by decide +kernel) ⟨b, P.length, by rw [s.R rfl]; exact r, hb, by rw [Sm_kd s]; exact kb, by rw [Sm_ln s]; exact lb, by rw [Sm_ln s]; exact pl, by rw [s.I rfl]; exact c, c7, fun i hi => ?_⟩ (hSr.sm s (by decide +kernel) rfl) (hRo.sm s (by decide +kernel))
  have hg : P[i]? = some P[i] := List.getElem?_eq_getElem hi
  rw [v7 i _ hg, ← vb i _ hg]
  rcases hb with rfl | hb
  · exact s.I rfl
  · exact s.I (lo_wr rfl hb)
