/-- one: a not, or a sum with a relation -/
theorem pcl_3 {x : Txt} {N : List Int64} {o : Nat} {pre : List (Int32 × Int32)} (ho : Oo o) (hp : PrO pre) {f : Nat} (hP : Pcl x N o pre f 5 85 10) (hP3 : Pcl x N o pre f 3 82 11) : Pcl x N o pre (f + 1) 3 82 11 := by
  have e10 : ((1 : Int32) = 0) = False := by simp
  intro d q pend c g h μ hd hc hq hm hi hI hG hμ
  have hS := hG.1
  have hx := hG.2.1.1
  have hmu := muN (k := 82) (r := 11) (d := d) rfl (by omega)
  have hms : ms 3 q = 16 * (1602 - qi q) + 5 := rfl
  have w := s_Re_isWord hS hG.2.2.1 (tks_5 hx (qi q)) 7237492 (μ := 11 + 8 * (8 - d)) (by omega)
  rw [rd_3 hq]
  rw [C_82 45 _ μ h (K_45 hS) (by decide) (by rw [hmu]; exact hμ), hmu]
  by_cases c1 : isN (tks x (qi q)) = true
  · rw [if_pos c1]
    have n1 := isN_k c1
    rw [decide_eq_true n1, b2i_t] at w
    by_cases c2 : 6 < d
    · rw [if_pos c2]
      obtain ⟨h1, s1, R1, -, m1⟩ := hG.refuse hq (c := 2) (by decide) (by decide) (μ := 11 + 8 * (8 - d)) (by omega)
      have s1 : cal 57 [.ref 45, .int 2] (11 + 8 * (8 - d)) h = some (none, h1) := s1
      refine ⟨h1, ?_, R1, m1⟩
      simp (disch := first | assumption | exact b2i_01 _ | decide | omega | (simp only [kd_sI, ln_sI, hl_sI, gL_sI, gR_sI, kd_sL, ln_sL, hl_sL, gI_sL, gR_sL, kd_sR, ln_sR, hl_sR, gI_sR, gL_sR, kd_cpI, ln_cpI, hl_cpI, gL_cpI, gR_cpI, gI_cpI, gI_sI, gL_sL, gR_sR, St_sI, St_sL, St_cpI, Nat.reduceEqDiff, Nat.reduceAdd, eq_self, false_and, and_false, true_and, and_true, and_self, if_true, if_false, false_or, or_false, true_or, or_true, not_true_eq_false, not_false_eq_true, reduceIte, K_45, F_45_0, hS, w, e10, s1, (eq_false (by simp (disch := omega) only [nI_lit, nI_add, lt_nI, le_nI, eq_nI] <;> omega) : (nI d ≤ (6 : Int32)) = False), List.length_nil, List.length_cons, Nat.zero_le] <;> first | done | decide | omega | fail) | fail) only [B_82_0, e_aload_n_0, e_ldc2_7237492, e_call_2, psh_s, psh_n, Option.bind_some, e_if_eq, e_iload_n_1, e_bipush_6, e_ic_le, e_iconst_2, R_82, T_82_22, B_82_22, G_600, e_call_1, e_iconst_1, e_iadd, G_601, G_511, e_bipush_33, T_82_49, B_82_49, e_bipush_60, e_if_ne, e_bipush_62, e_bipush_61, e_gotow, T_82_81, B_82_81, G_904, e_istore_n_2, clr_i, clr_l, clr_a, clr_n, e_iload_n_2, T_82_112, B_82_112, kd_sI, ln_sI, hl_sI, gL_sI, gR_sI, kd_sL, ln_sL, hl_sL, gI_sL, gR_sL, kd_sR, ln_sR, hl_sR, gI_sR, gL_sR, kd_cpI, ln_cpI, hl_cpI, gL_cpI, gR_cpI, gI_cpI, gI_sI, gL_sL, gR_sR, St_sI, St_sL, St_cpI, Nat.reduceEqDiff, Nat.reduceAdd, eq_self, false_and, and_false, true_and, and_true, and_self, if_true, if_false, false_or, or_false, true_or, or_true, not_true_eq_false, not_false_eq_true, reduceIte, K_45, F_45_0, w, e10, s1, (eq_false (by simp (disch := omega) only [nI_lit, nI_add, lt_nI, le_nI, eq_nI] <;> omega) : (nI d ≤ (6 : Int32)) = False), List.length_nil, List.length_cons, Nat.zero_le]
    · rw [if_neg c2]
      obtain ⟨h1, s1, G1, m1⟩ := hG.step ho (μ := 11 + 8 * (8 - d)) (by omega)
      have hI' : PI x N pre (pend + 1) (c + 1) g (stq q) := by
        obtain ⟨p1, p2, ⟨p6, p7⟩, p8⟩ := hI
        have n3 := tks_not hx n1.1 n1.2
        have n4 := p7 n1.1
        refine ⟨p1, p2, ⟨?_, fun z => ?_⟩, ?_⟩
        · show 4 * (nNt pre + nNt (qs q) + (pend + 1)) ≤ tkS (tks x (qi q + 1)) + 1; omega
        · have := n3.2 z
          show 4 * (nNt pre + nNt (qs q) + (pend + 1)) ≤ tkS (tks x (qi q + 1)); omega
        · show nNt (qs q) + (pend + 1) ≤ 7 * qo q + (c + 1); omega
      have hlt := tks_lt hx (show ¬ tkK (tks x (qi q)) = 0 by omega)
      obtain ⟨h2, s2, R2, m2⟩ := hP3 (d + 1) (stq q) (pend + 1) (c + 1) g h1 (11 + 8 * (8 - d)) (by omega) (by omega) hq (by
        have : ms 3 (stq q) = 16 * (1602 - (qi q + 1)) + 5 := rfl
        omega) (by show qi q + 1 ≤ 1600; omega) hI' G1 (by omega)
      have hPI := PI_rd (N := N) (pre := pre) hx f 3 (d + 1) (stq q) (pend + 1) (c + 1) g (by unfold Lv; omega) hq (by omega) (by omega) (by intro z; omega) hI'
      rw [if_neg (show ¬ 10 ≤ 3 by decide)] at hPI
      generalize rd x N f 3 (d + 1) (stq q) = r at R2 hPI ⊢
      obtain ⟨h3, s3, R3, m3⟩ := R2.addop ho (a := (2, 0)) (y := 33) (n := 20033) (by decide) (by decide) (by decide) (fun z => (hPI z).room hx hp (Or.inl (by omega))) (μ := 11 + 8 * (8 - d)) (by omega)
      refine ⟨h3, ?_, R3, ((W43_WF (o := o) m1).trans m2).trans m3⟩
      have o1 : gR h2 45 1 = .ref o := by
        rcases R2 with ⟨_, z⟩ | ⟨_, z⟩
        · exact z.2.2.2.1.2.2.1
        · exact z.2.2
      have hS1 := G1.1
      have hS2 : St h2 := by
        rcases R2 with ⟨_, z⟩ | ⟨_, z⟩ <;> exact z.1
      have ad := nI_1 d
      simp (disch := first | assumption | exact b2i_01 _ | decide | omega | (simp only [kd_sI, ln_sI, hl_sI, gL_sI, gR_sI, kd_sL, ln_sL, hl_sL, gI_sL, gR_sL, kd_sR, ln_sR, hl_sR, gI_sR, gL_sR, kd_cpI, ln_cpI, hl_cpI, gL_cpI, gR_cpI, gI_cpI, gI_sI, gL_sL, gR_sR, St_sI, St_sL, St_cpI, Nat.reduceEqDiff, Nat.reduceAdd, eq_self, false_and, and_false, true_and, and_true, and_self, if_true, if_false, false_or, or_false, true_or, or_true, not_true_eq_false, not_false_eq_true, reduceIte, K_45, F_45_0, KO_0, KO_1, KO_2, NO_2, KO_3, NO_3, KO_4, KO_5, NO_5, KO_6, NO_6, KO_7, NO_7, KO_8, KO_9, NO_9, KO_10, NO_10, KO_11, NO_11, KO_12, NO_12, KO_13, NO_13, KO_14, NO_14, KO_15, KO_16, NO_16, KO_17, NO_17, KO_18, NO_18, KO_19, NO_19, FO_0_0, FO_0_1, FO_0_2, FO_0_3, FO_0_4, FO_0_5, FO_0_6, FO_0_7, FO_0_8, FO_0_9, FO_0_10, FO_0_11, FO_1_0, FO_4_0, FO_8_0, FO_15_0, FO_15_2, FO_15_3, FO_15_4, Oo_2, Oo_p, hS, w, e10, s1, hS1, ad, s2, hS2, o1, ho, s3, (eq_true (by simp (disch := omega) only [nI_lit, nI_add, lt_nI, le_nI, eq_nI] <;> omega) : (nI d ≤ (6 : Int32)) = True), List.length_nil, List.length_cons, Nat.zero_le] <;> first | done | decide | omega | fail) | fail) only [B_82_0, e_aload_n_0, e_ldc2_7237492, e_call_2, psh_s, psh_n, Option.bind_some, e_if_eq, e_iload_n_1, e_bipush_6, e_ic_le, e_iconst_2, R_82, T_82_22, B_82_22, G_600, e_call_1, e_iconst_1, e_iadd, G_601, G_511, e_bipush_33, T_82_49, B_82_49, e_bipush_60, e_if_ne, e_bipush_62, e_bipush_61, e_gotow, T_82_81, B_82_81, G_904, e_istore_n_2, clr_i, clr_l, clr_a, clr_n, e_iload_n_2, T_82_112, B_82_112, kd_sI, ln_sI, hl_sI, gL_sI, gR_sI, kd_sL, ln_sL, hl_sL, gI_sL, gR_sL, kd_sR, ln_sR, hl_sR, gI_sR, gL_sR, kd_cpI, ln_cpI, hl_cpI, gL_cpI, gR_cpI, gI_cpI, gI_sI, gL_sL, gR_sR, St_sI, St_sL, St_cpI, Nat.reduceEqDiff, Nat.reduceAdd, eq_self, false_and, and_false, true_and, and_true, and_self, if_true, if_false, false_or, or_false, true_or, or_true, not_true_eq_false, not_false_eq_true, reduceIte, K_45, F_45_0, KO_0, KO_1, KO_2, NO_2, KO_3, NO_3, KO_4, KO_5, NO_5, KO_6, NO_6, KO_7, NO_7, KO_8, KO_9, NO_9, KO_10, NO_10, KO_11, NO_11, KO_12, NO_12, KO_13, NO_13, KO_14, NO_14, KO_15, KO_16, NO_16, KO_17, NO_17, KO_18, NO_18, KO_19, NO_19, FO_0_0, FO_0_1, FO_0_2, FO_0_3, FO_0_4, FO_0_5, FO_0_6, FO_0_7, FO_0_8, FO_0_9, FO_0_10, FO_0_11, FO_1_0, FO_4_0, FO_8_0, FO_15_0, FO_15_2, FO_15_3, FO_15_4, Oo_2, Oo_p, w, e10, s1, hS1, ad, s2, hS2, o1, ho, s3, (eq_true (by simp (disch := omega) only [nI_lit, nI_add, lt_nI, le_nI, eq_nI] <;> omega) : (nI d ≤ (6 : Int32)) = True), List.length_nil, List.length_cons, Nat.zero_le]
  · rw [if_neg c1]
    have n1 : ¬ (tkK (tks x (qi q)) = 2 ∧ tkW (tks x (qi q)) = 7237492) := fun z => c1 (by unfold isN; simp only [z.1, z.2]; rfl)
    rw [decide_eq_false n1, b2i_f] at w
    obtain ⟨h1, s1, R1, m1⟩ := hP d q pend c g h (11 + 8 * (8 - d)) hd hc hq (by
      have : ms 5 q = 16 * (1602 - qi q) + 4 := rfl
      omega) hi hI hG (by omega)
    have hPI := PI_rd (N := N) (pre := pre) hx f 5 d q pend c g (by unfold Lv; omega) hq hd hc (by intro z; omega) hI
    rw [if_neg (show ¬ 10 ≤ 5 by decide)] at hPI
    have hmn := rd_mono (x := x) (N := N) f 5 d q
    have hqr := rd_qi (N := N) hx f 5 d q (by unfold Lv; omega) hi
    generalize rd x N f 5 d q = r at R1 hPI hmn hqr ⊢
    unfold rdr
    rcases R1 with ⟨z, G1⟩ | ⟨z, B1⟩
    · have hS1 := G1.1
      have w60 := s_Re_isSign hS1 G1.2.2.1 (tks_5 hx (qi r)) (c := 60) (by decide) (tks_v hx) (μ := 11 + 8 * (8 - d)) (by omega)
      have w60 : cal 89 [.ref 45, .int 60] (11 + 8 * (8 - d)) h1 = _ := w60
      have w62 := s_Re_isSign hS1 G1.2.2.1 (tks_5 hx (qi r)) (c := 62) (by decide) (tks_v hx) (μ := 11 + 8 * (8 - d)) (by omega)
      have w62 : cal 89 [.ref 45, .int 62] (11 + 8 * (8 - d)) h1 = _ := w62
      have w61 := s_Re_isSign hS1 G1.2.2.1 (tks_5 hx (qi r)) (c := 61) (by decide) (tks_v hx) (μ := 11 + 8 * (8 - d)) (by omega)
      have w61 : cal 89 [.ref 45, .int 61] (11 + 8 * (8 - d)) h1 = _ := w61
      by_cases c2 : tg (tks x (qi r)) = 4
      · rw [if_pos ⟨z, c2⟩]
        have c3 := tg_s.1.mp c2
        have hk := tg_k (t := tks x (qi r)) (by omega)
        have hv := G1.2.2.1.2.2.2.1 (Or.inr c3.1)
        obtain ⟨h2, s2, G2, m2⟩ := G1.step ho (μ := 11 + 8 * (8 - d)) (by omega)
        have hlt := tks_lt hx hk.1
        obtain ⟨h3, s3, R3, m3⟩ := hP d (stq r) pend 0 (g + 1) h2 (11 + 8 * (8 - d)) hd (by omega) z (by
          have : ms 5 (stq r) = 16 * (1602 - (qi r + 1)) + 4 := rfl
          omega) (qi_le hx hk.1) ((hPI z).stq hx hk.1) G2 (by omega)
        have hPJ := PI_rd (N := N) (pre := pre) hx f 5 d (stq r) pend 0 (g + 1) (by unfold Lv; omega) z hd (by omega) (by intro z; omega) ((hPI z).stq hx hk.1)
        rw [if_neg (show ¬ 10 ≤ 5 by decide)] at hPJ
        have hsg : sg (tks x (qi r)) = nI (tkV (tks x (qi r))) := by unfold sg; rw [if_neg (by omega)]
        obtain ⟨nn, hnn, hop⟩ := op_nI (t := tks x (qi r)) (by omega)
        rw [hsg] at hop
        rw [hsg]
        generalize rd x N f 5 d (stq r) = r2 at R3 hPJ ⊢
        obtain ⟨h4, s4, R4, m4⟩ := R3.addop ho (a := (3, nI (tkV (tks x (qi r))))) (y := nI (tkV (tks x (qi r)))) (n := nn) hop (cdo_op hop) hnn (fun z => (hPJ z).room hx hp (Or.inl (by omega))) (μ := 11 + 8 * (8 - d)) (by omega)
        refine ⟨h4, ?_, R4, ((m1.trans (W43_WF (o := o) m2)).trans m3).trans m4⟩
        have o1 : gR h3 45 1 = .ref o := by
          rcases R3 with ⟨_, z⟩ | ⟨_, z⟩
          · exact z.2.2.2.1.2.2.1
          · exact z.2.2
        have hS2 := G2.1
        have hS3 : St h3 := by
          rcases R3 with ⟨_, z⟩ | ⟨_, z⟩ <;> exact z.1
        rcases c3.2 with v | v | v
        · rw [isS_k.mpr ⟨c3.1, v⟩, b2i_t] at w60
          simp (disch := first | assumption | exact b2i_01 _ | decide | omega | (simp only [kd_sI, ln_sI, hl_sI, gL_sI, gR_sI, kd_sL, ln_sL, hl_sL, gI_sL, gR_sL, kd_sR, ln_sR, hl_sR, gI_sR, gL_sR, kd_cpI, ln_cpI, hl_cpI, gL_cpI, gR_cpI, gI_cpI, gI_sI, gL_sL, gR_sR, St_sI, St_sL, St_cpI, Nat.reduceEqDiff, Nat.reduceAdd, eq_self, false_and, and_false, true_and, and_true, and_self, if_true, if_false, false_or, or_false, true_or, or_true, not_true_eq_false, not_false_eq_true, reduceIte, K_45, F_45_0, K_43, F_43_0, KO_0, KO_1, KO_2, NO_2, KO_3, NO_3, KO_4, KO_5, NO_5, KO_6, NO_6, KO_7, NO_7, KO_8, KO_9, NO_9, KO_10, NO_10, KO_11, NO_11, KO_12, NO_12, KO_13, NO_13, KO_14, NO_14, KO_15, KO_16, NO_16, KO_17, NO_17, KO_18, NO_18, KO_19, NO_19, FO_0_0, FO_0_1, FO_0_2, FO_0_3, FO_0_4, FO_0_5, FO_0_6, FO_0_7, FO_0_8, FO_0_9, FO_0_10, FO_0_11, FO_1_0, FO_4_0, FO_8_0, FO_15_0, FO_15_2, FO_15_3, FO_15_4, Oo_2, Oo_p, hS, w, w60, e10, s1, hS1, hv, s2, hS2, s3, hS3, o1, ho, s4, List.length_nil, List.length_cons, Nat.zero_le] <;> first | done | decide | omega | fail) | fail) only [B_82_0, e_aload_n_0, e_ldc2_7237492, e_call_2, psh_s, psh_n, Option.bind_some, e_if_eq, e_iload_n_1, e_bipush_6, e_ic_le, e_iconst_2, R_82, T_82_22, B_82_22, G_600, e_call_1, e_iconst_1, e_iadd, G_601, G_511, e_bipush_33, T_82_49, B_82_49, e_bipush_60, e_if_ne, e_bipush_62, e_bipush_61, e_gotow, T_82_81, B_82_81, G_904, e_istore_n_2, clr_i, clr_l, clr_a, clr_n, e_iload_n_2, T_82_112, B_82_112, kd_sI, ln_sI, hl_sI, gL_sI, gR_sI, kd_sL, ln_sL, hl_sL, gI_sL, gR_sL, kd_sR, ln_sR, hl_sR, gI_sR, gL_sR, kd_cpI, ln_cpI, hl_cpI, gL_cpI, gR_cpI, gI_cpI, gI_sI, gL_sL, gR_sR, St_sI, St_sL, St_cpI, Nat.reduceEqDiff, Nat.reduceAdd, eq_self, false_and, and_false, true_and, and_true, and_self, if_true, if_false, false_or, or_false, true_or, or_true, not_true_eq_false, not_false_eq_true, reduceIte, K_45, F_45_0, K_43, F_43_0, KO_0, KO_1, KO_2, NO_2, KO_3, NO_3, KO_4, KO_5, NO_5, KO_6, NO_6, KO_7, NO_7, KO_8, KO_9, NO_9, KO_10, NO_10, KO_11, NO_11, KO_12, NO_12, KO_13, NO_13, KO_14, NO_14, KO_15, KO_16, NO_16, KO_17, NO_17, KO_18, NO_18, KO_19, NO_19, FO_0_0, FO_0_1, FO_0_2, FO_0_3, FO_0_4, FO_0_5, FO_0_6, FO_0_7, FO_0_8, FO_0_9, FO_0_10, FO_0_11, FO_1_0, FO_4_0, FO_8_0, FO_15_0, FO_15_2, FO_15_3, FO_15_4, Oo_2, Oo_p, w, w60, e10, s1, hS1, hv, s2, hS2, s3, hS3, o1, ho, s4, List.length_nil, List.length_cons, Nat.zero_le]
        · rw [show isS (tks x (qi r)) 60 = false from Bool.eq_false_iff.mpr (fun y => by have := (isS_k.mp y).2; omega), b2i_f] at w60
          rw [isS_k.mpr ⟨c3.1, v⟩, b2i_t] at w62
          simp (disch := first | assumption | exact b2i_01 _ | decide | omega | (simp only [kd_sI, ln_sI, hl_sI, gL_sI, gR_sI, kd_sL, ln_sL, hl_sL, gI_sL, gR_sL, kd_sR, ln_sR, hl_sR, gI_sR, gL_sR, kd_cpI, ln_cpI, hl_cpI, gL_cpI, gR_cpI, gI_cpI, gI_sI, gL_sL, gR_sR, St_sI, St_sL, St_cpI, Nat.reduceEqDiff, Nat.reduceAdd, eq_self, false_and, and_false, true_and, and_true, and_self, if_true, if_false, false_or, or_false, true_or, or_true, not_true_eq_false, not_false_eq_true, reduceIte, K_45, F_45_0, K_43, F_43_0, KO_0, KO_1, KO_2, NO_2, KO_3, NO_3, KO_4, KO_5, NO_5, KO_6, NO_6, KO_7, NO_7, KO_8, KO_9, NO_9, KO_10, NO_10, KO_11, NO_11, KO_12, NO_12, KO_13, NO_13, KO_14, NO_14, KO_15, KO_16, NO_16, KO_17, NO_17, KO_18, NO_18, KO_19, NO_19, FO_0_0, FO_0_1, FO_0_2, FO_0_3, FO_0_4, FO_0_5, FO_0_6, FO_0_7, FO_0_8, FO_0_9, FO_0_10, FO_0_11, FO_1_0, FO_4_0, FO_8_0, FO_15_0, FO_15_2, FO_15_3, FO_15_4, Oo_2, Oo_p, hS, w, w60, w62, e10, s1, hS1, hv, s2, hS2, s3, hS3, o1, ho, s4, List.length_nil, List.length_cons, Nat.zero_le] <;> first | done | decide | omega | fail) | fail) only [B_82_0, e_aload_n_0, e_ldc2_7237492, e_call_2, psh_s, psh_n, Option.bind_some, e_if_eq, e_iload_n_1, e_bipush_6, e_ic_le, e_iconst_2, R_82, T_82_22, B_82_22, G_600, e_call_1, e_iconst_1, e_iadd, G_601, G_511, e_bipush_33, T_82_49, B_82_49, e_bipush_60, e_if_ne, e_bipush_62, e_bipush_61, e_gotow, T_82_81, B_82_81, G_904, e_istore_n_2, clr_i, clr_l, clr_a, clr_n, e_iload_n_2, T_82_112, B_82_112, kd_sI, ln_sI, hl_sI, gL_sI, gR_sI, kd_sL, ln_sL, hl_sL, gI_sL, gR_sL, kd_sR, ln_sR, hl_sR, gI_sR, gL_sR, kd_cpI, ln_cpI, hl_cpI, gL_cpI, gR_cpI, gI_cpI, gI_sI, gL_sL, gR_sR, St_sI, St_sL, St_cpI, Nat.reduceEqDiff, Nat.reduceAdd, eq_self, false_and, and_false, true_and, and_true, and_self, if_true, if_false, false_or, or_false, true_or, or_true, not_true_eq_false, not_false_eq_true, reduceIte, K_45, F_45_0, K_43, F_43_0, KO_0, KO_1, KO_2, NO_2, KO_3, NO_3, KO_4, KO_5, NO_5, KO_6, NO_6, KO_7, NO_7, KO_8, KO_9, NO_9, KO_10, NO_10, KO_11, NO_11, KO_12, NO_12, KO_13, NO_13, KO_14, NO_14, KO_15, KO_16, NO_16, KO_17, NO_17, KO_18, NO_18, KO_19, NO_19, FO_0_0, FO_0_1, FO_0_2, FO_0_3, FO_0_4, FO_0_5, FO_0_6, FO_0_7, FO_0_8, FO_0_9, FO_0_10, FO_0_11, FO_1_0, FO_4_0, FO_8_0, FO_15_0, FO_15_2, FO_15_3, FO_15_4, Oo_2, Oo_p, w, w60, w62, e10, s1, hS1, hv, s2, hS2, s3, hS3, o1, ho, s4, List.length_nil, List.length_cons, Nat.zero_le]
        · rw [show isS (tks x (qi r)) 60 = false from Bool.eq_false_iff.mpr (fun y => by have := (isS_k.mp y).2; omega), b2i_f] at w60
          rw [show isS (tks x (qi r)) 62 = false from Bool.eq_false_iff.mpr (fun y => by have := (isS_k.mp y).2; omega), b2i_f] at w62
          rw [isS_k.mpr ⟨c3.1, v⟩, b2i_t] at w61
          simp (disch := first | assumption | exact b2i_01 _ | decide | omega | (simp only [kd_sI, ln_sI, hl_sI, gL_sI, gR_sI, kd_sL, ln_sL, hl_sL, gI_sL, gR_sL, kd_sR, ln_sR, hl_sR, gI_sR, gL_sR, kd_cpI, ln_cpI, hl_cpI, gL_cpI, gR_cpI, gI_cpI, gI_sI, gL_sL, gR_sR, St_sI, St_sL, St_cpI, Nat.reduceEqDiff, Nat.reduceAdd, eq_self, false_and, and_false, true_and, and_true, and_self, if_true, if_false, false_or, or_false, true_or, or_true, not_true_eq_false, not_false_eq_true, reduceIte, K_45, F_45_0, K_43, F_43_0, KO_0, KO_1, KO_2, NO_2, KO_3, NO_3, KO_4, KO_5, NO_5, KO_6, NO_6, KO_7, NO_7, KO_8, KO_9, NO_9, KO_10, NO_10, KO_11, NO_11, KO_12, NO_12, KO_13, NO_13, KO_14, NO_14, KO_15, KO_16, NO_16, KO_17, NO_17, KO_18, NO_18, KO_19, NO_19, FO_0_0, FO_0_1, FO_0_2, FO_0_3, FO_0_4, FO_0_5, FO_0_6, FO_0_7, FO_0_8, FO_0_9, FO_0_10, FO_0_11, FO_1_0, FO_4_0, FO_8_0, FO_15_0, FO_15_2, FO_15_3, FO_15_4, Oo_2, Oo_p, hS, w, w60, w62, w61, e10, s1, hS1, hv, s2, hS2, s3, hS3, o1, ho, s4, List.length_nil, List.length_cons, Nat.zero_le] <;> first | done | decide | omega | fail) | fail) only [B_82_0, e_aload_n_0, e_ldc2_7237492, e_call_2, psh_s, psh_n, Option.bind_some, e_if_eq, e_iload_n_1, e_bipush_6, e_ic_le, e_iconst_2, R_82, T_82_22, B_82_22, G_600, e_call_1, e_iconst_1, e_iadd, G_601, G_511, e_bipush_33, T_82_49, B_82_49, e_bipush_60, e_if_ne, e_bipush_62, e_bipush_61, e_gotow, T_82_81, B_82_81, G_904, e_istore_n_2, clr_i, clr_l, clr_a, clr_n, e_iload_n_2, T_82_112, B_82_112, kd_sI, ln_sI, hl_sI, gL_sI, gR_sI, kd_sL, ln_sL, hl_sL, gI_sL, gR_sL, kd_sR, ln_sR, hl_sR, gI_sR, gL_sR, kd_cpI, ln_cpI, hl_cpI, gL_cpI, gR_cpI, gI_cpI, gI_sI, gL_sL, gR_sR, St_sI, St_sL, St_cpI, Nat.reduceEqDiff, Nat.reduceAdd, eq_self, false_and, and_false, true_and, and_true, and_self, if_true, if_false, false_or, or_false, true_or, or_true, not_true_eq_false, not_false_eq_true, reduceIte, K_45, F_45_0, K_43, F_43_0, KO_0, KO_1, KO_2, NO_2, KO_3, NO_3, KO_4, KO_5, NO_5, KO_6, NO_6, KO_7, NO_7, KO_8, KO_9, NO_9, KO_10, NO_10, KO_11, NO_11, KO_12, NO_12, KO_13, NO_13, KO_14, NO_14, KO_15, KO_16, NO_16, KO_17, NO_17, KO_18, NO_18, KO_19, NO_19, FO_0_0, FO_0_1, FO_0_2, FO_0_3, FO_0_4, FO_0_5, FO_0_6, FO_0_7, FO_0_8, FO_0_9, FO_0_10, FO_0_11, FO_1_0, FO_4_0, FO_8_0, FO_15_0, FO_15_2, FO_15_3, FO_15_4, Oo_2, Oo_p, w, w60, w62, w61, e10, s1, hS1, hv, s2, hS2, s3, hS3, o1, ho, s4, List.length_nil, List.length_cons, Nat.zero_le]
      · rw [if_neg (fun y => c2 y.2)]
        refine ⟨h1, ?_, Or.inl ⟨z, G1⟩, m1⟩
        rw [show isS (tks x (qi r)) 60 = false from Bool.eq_false_iff.mpr (fun y => c2 (tg_s.1.mpr ⟨(isS_k.mp y).1, by have := (isS_k.mp y).2; omega⟩)), b2i_f] at w60
        rw [show isS (tks x (qi r)) 62 = false from Bool.eq_false_iff.mpr (fun y => c2 (tg_s.1.mpr ⟨(isS_k.mp y).1, by have := (isS_k.mp y).2; omega⟩)), b2i_f] at w62
        rw [show isS (tks x (qi r)) 61 = false from Bool.eq_false_iff.mpr (fun y => c2 (tg_s.1.mpr ⟨(isS_k.mp y).1, by have := (isS_k.mp y).2; omega⟩)), b2i_f] at w61
        simp (disch := first | assumption | exact b2i_01 _ | decide | omega | (simp only [kd_sI, ln_sI, hl_sI, gL_sI, gR_sI, kd_sL, ln_sL, hl_sL, gI_sL, gR_sL, kd_sR, ln_sR, hl_sR, gI_sR, gL_sR, kd_cpI, ln_cpI, hl_cpI, gL_cpI, gR_cpI, gI_cpI, gI_sI, gL_sL, gR_sR, St_sI, St_sL, St_cpI, Nat.reduceEqDiff, Nat.reduceAdd, eq_self, false_and, and_false, true_and, and_true, and_self, if_true, if_false, false_or, or_false, true_or, or_true, not_true_eq_false, not_false_eq_true, reduceIte, K_45, F_45_0, K_43, F_43_0, KO_0, KO_1, KO_2, NO_2, KO_3, NO_3, KO_4, KO_5, NO_5, KO_6, NO_6, KO_7, NO_7, KO_8, KO_9, NO_9, KO_10, NO_10, KO_11, NO_11, KO_12, NO_12, KO_13, NO_13, KO_14, NO_14, KO_15, KO_16, NO_16, KO_17, NO_17, KO_18, NO_18, KO_19, NO_19, FO_0_0, FO_0_1, FO_0_2, FO_0_3, FO_0_4, FO_0_5, FO_0_6, FO_0_7, FO_0_8, FO_0_9, FO_0_10, FO_0_11, FO_1_0, FO_4_0, FO_8_0, FO_15_0, FO_15_2, FO_15_3, FO_15_4, Oo_2, Oo_p, hS, w, w60, w62, w61, s1, hS1, List.length_nil, List.length_cons, Nat.zero_le] <;> first | done | decide | omega | fail) | fail) only [B_82_0, e_aload_n_0, e_ldc2_7237492, e_call_2, psh_s, psh_n, Option.bind_some, e_if_eq, e_iload_n_1, e_bipush_6, e_ic_le, e_iconst_2, R_82, T_82_22, B_82_22, G_600, e_call_1, e_iconst_1, e_iadd, G_601, G_511, e_bipush_33, T_82_49, B_82_49, e_bipush_60, e_if_ne, e_bipush_62, e_bipush_61, e_gotow, T_82_81, B_82_81, G_904, e_istore_n_2, clr_i, clr_l, clr_a, clr_n, e_iload_n_2, T_82_112, B_82_112, kd_sI, ln_sI, hl_sI, gL_sI, gR_sI, kd_sL, ln_sL, hl_sL, gI_sL, gR_sL, kd_sR, ln_sR, hl_sR, gI_sR, gL_sR, kd_cpI, ln_cpI, hl_cpI, gL_cpI, gR_cpI, gI_cpI, gI_sI, gL_sL, gR_sR, St_sI, St_sL, St_cpI, Nat.reduceEqDiff, Nat.reduceAdd, eq_self, false_and, and_false, true_and, and_true, and_self, if_true, if_false, false_or, or_false, true_or, or_true, not_true_eq_false, not_false_eq_true, reduceIte, K_45, F_45_0, K_43, F_43_0, KO_0, KO_1, KO_2, NO_2, KO_3, NO_3, KO_4, KO_5, NO_5, KO_6, NO_6, KO_7, NO_7, KO_8, KO_9, NO_9, KO_10, NO_10, KO_11, NO_11, KO_12, NO_12, KO_13, NO_13, KO_14, NO_14, KO_15, KO_16, NO_16, KO_17, NO_17, KO_18, NO_18, KO_19, NO_19, FO_0_0, FO_0_1, FO_0_2, FO_0_3, FO_0_4, FO_0_5, FO_0_6, FO_0_7, FO_0_8, FO_0_9, FO_0_10, FO_0_11, FO_1_0, FO_4_0, FO_8_0, FO_15_0, FO_15_2, FO_15_3, FO_15_4, Oo_2, Oo_p, w, w60, w62, w61, s1, hS1, List.length_nil, List.length_cons, Nat.zero_le]
    · rw [if_neg (fun y => z y.1)]
      refine ⟨h1, ?_, Or.inr ⟨z, B1⟩, m1⟩
      have hS1 := B1.1
      have w60 := s_Re_isSignB hS1 B1.2.1.2.2.1 60 (μ := 11 + 8 * (8 - d)) (by omega)
      have w62 := s_Re_isSignB hS1 B1.2.1.2.2.1 62 (μ := 11 + 8 * (8 - d)) (by omega)
      have w61 := s_Re_isSignB hS1 B1.2.1.2.2.1 61 (μ := 11 + 8 * (8 - d)) (by omega)
      simp (disch := first | assumption | exact b2i_01 _ | decide | omega | (simp only [kd_sI, ln_sI, hl_sI, gL_sI, gR_sI, kd_sL, ln_sL, hl_sL, gI_sL, gR_sL, kd_sR, ln_sR, hl_sR, gI_sR, gL_sR, kd_cpI, ln_cpI, hl_cpI, gL_cpI, gR_cpI, gI_cpI, gI_sI, gL_sL, gR_sR, St_sI, St_sL, St_cpI, Nat.reduceEqDiff, Nat.reduceAdd, eq_self, false_and, and_false, true_and, and_true, and_self, if_true, if_false, false_or, or_false, true_or, or_true, not_true_eq_false, not_false_eq_true, reduceIte, K_45, F_45_0, K_43, F_43_0, KO_0, KO_1, KO_2, NO_2, KO_3, NO_3, KO_4, KO_5, NO_5, KO_6, NO_6, KO_7, NO_7, KO_8, KO_9, NO_9, KO_10, NO_10, KO_11, NO_11, KO_12, NO_12, KO_13, NO_13, KO_14, NO_14, KO_15, KO_16, NO_16, KO_17, NO_17, KO_18, NO_18, KO_19, NO_19, FO_0_0, FO_0_1, FO_0_2, FO_0_3, FO_0_4, FO_0_5, FO_0_6, FO_0_7, FO_0_8, FO_0_9, FO_0_10, FO_0_11, FO_1_0, FO_4_0, FO_8_0, FO_15_0, FO_15_2, FO_15_3, FO_15_4, Oo_2, Oo_p, hS, w, w60, w62, w61, s1, hS1, List.length_nil, List.length_cons, Nat.zero_le] <;> first | done | decide | omega | fail) | fail) only [B_82_0, e_aload_n_0, e_ldc2_7237492, e_call_2, psh_s, psh_n, Option.bind_some, e_if_eq, e_iload_n_1, e_bipush_6, e_ic_le, e_iconst_2, R_82, T_82_22, B_82_22, G_600, e_call_1, e_iconst_1, e_iadd, G_601, G_511, e_bipush_33, T_82_49, B_82_49, e_bipush_60, e_if_ne, e_bipush_62, e_bipush_61, e_gotow, T_82_81, B_82_81, G_904, e_istore_n_2, clr_i, clr_l, clr_a, clr_n, e_iload_n_2, T_82_112, B_82_112, kd_sI, ln_sI, hl_sI, gL_sI, gR_sI, kd_sL, ln_sL, hl_sL, gI_sL, gR_sL, kd_sR, ln_sR, hl_sR, gI_sR, gL_sR, kd_cpI, ln_cpI, hl_cpI, gL_cpI, gR_cpI, gI_cpI, gI_sI, gL_sL, gR_sR, St_sI, St_sL, St_cpI, Nat.reduceEqDiff, Nat.reduceAdd, eq_self, false_and, and_false, true_and, and_true, and_self, if_true, if_false, false_or, or_false, true_or, or_true, not_true_eq_false, not_false_eq_true, reduceIte, K_45, F_45_0, K_43, F_43_0, KO_0, KO_1, KO_2, NO_2, KO_3, NO_3, KO_4, KO_5, NO_5, KO_6, NO_6, KO_7, NO_7, KO_8, KO_9, NO_9, KO_10, NO_10, KO_11, NO_11, KO_12, NO_12, KO_13, NO_13, KO_14, NO_14, KO_15, KO_16, NO_16, KO_17, NO_17, KO_18, NO_18, KO_19, NO_19, FO_0_0, FO_0_1, FO_0_2, FO_0_3, FO_0_4, FO_0_5, FO_0_6, FO_0_7, FO_0_8, FO_0_9, FO_0_10, FO_0_11, FO_1_0, FO_4_0, FO_8_0, FO_15_0, FO_15_2, FO_15_3, FO_15_4, Oo_2, Oo_p, w, w60, w62, w61, s1, hS1, List.length_nil, List.length_cons, Nat.zero_le]
/-- a unit is counted -/
theorem GC.unit {x : Txt} {N : List Int64} {o : Nat} {pre : List (Int32 × Int32)} {q : Qs} {h : MH} (ho : Oo o) (hG : GC x N o pre q h) : GC x N o pre (qi q, 0, qu q + 1, qo q + 1, qs q) (sI (sI h 45 3 (nI (qo q + 1))) (o + 15) 5 (nI (qu q + 1))) ∧ Sm h (sI (sI h 45 3 (nI (qo q + 1))) (o + 15) 5 (nI (qu q + 1))) (WF o) := by
  obtain ⟨g1, g2, g3, ⟨g4, g5, g6, g7, g8⟩, ⟨g9, g10⟩, g11, g12⟩ := hG
  have s : Sm h (sI (sI h 45 3 (nI (qo q + 1))) (o + 15) 5 (nI (qu q + 1))) (WF o) := ((Sm.rf h _).sI (by simp [WF, wr, wr1])).sI (by simp [WF, wr, wr1])
  have hr := Oo_rng ho
  have ne : ∀ {y k : Nat}, ¬ (y = 45 ∧ k = 3) → ¬ (y = o + 15 ∧ k = 5) → gI (sI (sI h 45 3 (nI (qo q + 1))) (o + 15) 5 (nI (qu q + 1))) y k = gI h y k := by
    intro y k h1 h2
    rw [gI_sI, if_neg h2, gI_sI, if_neg h1]
  refine ⟨⟨s.St g1 (stb_WF ho), ⟨g2.1, ?_, ?_⟩, ⟨?_, ?_, ?_, ?_, g3.2.2.2.2⟩, ⟨?_, ?_, g6, ?_, ?_⟩, ⟨?_, ?_⟩, ?_, g12⟩, s⟩
  · rw [ne (by omega) (by omega)]; exact g2.2.1
  · intro i hi; rw [ne (by omega) (by omega)]; exact g2.2.2 i hi
  · rw [ne (by omega) (by omega)]; exact g3.1
  · rw [ne (by omega) (by omega)]; exact g3.2.1
  · rw [ne (by omega) (by omega)]; exact g3.2.2.1
  · intro z; rw [ne (by omega) (by omega)]; exact g3.2.2.2.1 z
  · rw [ne (by omega) (by omega)]; exact g4
  · rw [ne (by omega) (by omega)]; exact g5
  · rw [gI_sI, if_pos ⟨rfl, rfl⟩]
  · rw [gI_sI, if_neg (by omega), gI_sI, if_pos ⟨rfl, rfl⟩]
  · rw [ne (by omega) (by omega)]; exact g9
  · intro j s hj; rw [ne (by omega) (by omega)]; exact g10 j s hj
  · exact g11.eq rfl rfl (ne (by omega) (by omega)) (fun j => rfl)
