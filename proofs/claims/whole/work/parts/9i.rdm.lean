/-! the reference reads a formula: behind a unit -/
theorem cal_close {x : Txt} {N : List Int64} {w i u own m d : Nat} {R S : List Int32} {E : List (Int32 × Int32)} {h : MH} (hm : m ≤ 6) (hS0 : hdl m S) (hR : ∀ a ∈ R, opc a ∧ m ≤ tgh a) (hl : E.length + R.length ≤ 320) (hM : MF x N w i u own (d + n21 R) (R ++ S) E h) {μ : Nat} (hμ : 4 < μ) : ∃ h', cal 242 [.ref 66, .int (nI m)] μ h = some (none, h') ∧ MF x N w i u own d S (E ++ R.map sto) h' ∧ FM w h h' := by
  obtain ⟨h', k1, k2, k3⟩ := s_Mo_close hm hS0 R d E h hR hl hM
  refine ⟨h', ?_, k2, k3⟩
  have hS := hM.1.1
  rw [C_242 66 _ μ _ (K_66 hS) (by decide) hμ]
  exact k1
theorem cal_unit {h : MH} (hS : St h) : cal 233 [.ref 66] 7 h = rn 233 6 B_233_2 [some (.ref 66), some (.int 1)] [] h := by
  rw [C_233 66 7 h (K_66 hS) (by decide) (by omega)]
  simp (disch := first | assumption | exact b2i_01 _ | decide | omega | (simp only [kd_sI, ln_sI, hl_sI, gL_sI, gR_sI, kd_sL, ln_sL, hl_sL, gI_sL, gR_sL, kd_sR, ln_sR, hl_sR, gI_sR, gL_sR, kd_cpI, ln_cpI, hl_cpI, gL_cpI, gR_cpI, gI_cpI, gI_sI, gL_sL, gR_sR, St_sI, St_sL, St_cpI, Nat.reduceEqDiff, Nat.reduceAdd, eq_self, false_and, and_false, true_and, and_true, and_self, if_true, if_false, false_or, or_false, true_or, or_true, not_true_eq_false, not_false_eq_true, reduceIte, K_66, F_66_0, F_66_10, F_66_11, F_66_12, F_66_13, F_66_14, F_66_15, F_66_16, F_66_17, F_66_18, F_66_25, F_66_26, F_66_27, F_66_28, F_66_29, F_66_30, F_66_31, F_66_32, F_66_33, F_66_34, F_66_35, F_66_36, F_66_37, F_66_38, F_66_39, F_66_60, F_66_61, F_66_62, F_66_63, F_66_66, F_66_68, F_66_69, F_66_71, F_66_72, F_66_73, F_66_74, F_66_77, F_66_78, F_66_79, F_66_80, F_66_81, F_66_84, F_66_85, F_66_86, F_66_87, hS] <;> first | done | decide | omega | fail) | fail) only [B_233_0, e_iconst_1, e_istore_n_1, clr_i, clr_l, clr_a, clr_n, e_gotow, T_233_2, e_iload_n_1, e_if_eq, e_aload_n_0, G_1202, e_if_ne, e_ldc2_7237492, e_call_2, psh_s, psh_n, Option.bind_some, e_call_1, G_1224, e_bipush_6, e_ic_le, e_iconst_2, T_233_44, B_233_44, e_bipush_21, e_goto, T_233_53, B_233_53, G_1206, e_bipush_40, e_ic_ne, T_233_78, B_233_78, T_233_83, B_233_83, e_bipush_20, T_233_96, B_233_96, e_iconst_0, T_233_101, B_233_101, e_if_le, R_233, T_233_109, B_233_109, e_ic_eq, T_233_124, B_233_124, T_233_131, B_233_131, T_233_139, B_233_139, G_1240, e_call_3, e_if_ge, e_iconst_5, T_233_164, B_233_164, T_233_172, B_233_172, T_233_189, B_233_189, T_233_190, B_233_190, G_1208, T_233_205, B_233_205, T_233_214, B_233_214, kd_sI, ln_sI, hl_sI, gL_sI, gR_sI, kd_sL, ln_sL, hl_sL, gI_sL, gR_sL, kd_sR, ln_sR, hl_sR, gI_sR, gL_sR, kd_cpI, ln_cpI, hl_cpI, gL_cpI, gR_cpI, gI_cpI, gI_sI, gL_sL, gR_sR, St_sI, St_sL, St_cpI, Nat.reduceEqDiff, Nat.reduceAdd, eq_self, false_and, and_false, true_and, and_true, and_self, if_true, if_false, false_or, or_false, true_or, or_true, not_true_eq_false, not_false_eq_true, reduceIte, K_66, F_66_0, F_66_10, F_66_11, F_66_12, F_66_13, F_66_14, F_66_15, F_66_16, F_66_17, F_66_18, F_66_25, F_66_26, F_66_27, F_66_28, F_66_29, F_66_30, F_66_31, F_66_32, F_66_33, F_66_34, F_66_35, F_66_36, F_66_37, F_66_38, F_66_39, F_66_60, F_66_61, F_66_62, F_66_63, F_66_66, F_66_68, F_66_69, F_66_71, F_66_72, F_66_73, F_66_74, F_66_77, F_66_78, F_66_79, F_66_80, F_66_81, F_66_84, F_66_85, F_66_86, F_66_87]
theorem kf_op {x : Txt} {N : List Int64} {w i u own d : Nat} {R S : List Int32} {E : List (Int32 × Int32)} {h : MH} (l3 : Option Value) (hM : MF x N w i u own (d + n21 R) (R ++ S) E h) (ht0 : ¬ tg (tks x i) = 0) (h4 : tg (tks x i) = 4 → hr (R ++ S) = false) (hv : ∀ a ∈ R ++ S, a = 20 ∨ opc a) (hR : ∀ a ∈ R, opc a ∧ tg (tks x i) ≤ tgh a) (hd : hdl (tg (tks x i)) S) (hl : E.length + R.length ≤ 320) (hS60 : S.length < 60) : ∃ h', KF w l3 [] h = UF w (some (.int (sg (tks x i)))) h' ∧ MF x N w (i + 1) u own d (sg (tks x i) :: S) (E ++ R.map sto) h' ∧ FM w h h' := by
  have hS := hM.1.1
  have hx := hM.1.2.1.1
  have e10 : ((1 : Int32) = 0) = False := by simp
  have ht := tks_o hx i
  have f0 := hM.2.1.1
  have sgn1 := s_Mo_sign hM (μ := 7) (by omega)
  unfold sgM at sgn1
  rw [if_neg ht0] at sgn1
  have k6 := hM.1.2.2.1
  have hk := tg_k ht0
  have k41 : ¬ kM (tks x i) = 41 := fun z => by
    have := (kM_s ht (c := 41) (by decide) (by decide)).mp z
    have := isS_k.mp this
    apply ht0
    unfold tg
    rw [if_neg (by omega), if_pos this.1, this.2]
    decide
  obtain ⟨tg1, op1⟩ := tgh_sg ht0
  have tgb := tgh_b op1
  have st := s_Mo_tight (h := h) op1 (μ := 7) (by omega)
  rw [tg1] at st tgb
  have sg0 : ¬ sg (tks x i) = 0 := by
    intro z
    rw [z] at op1
    unfold opc sgn at op1
    revert op1
    decide
  obtain ⟨h1, k1, M1, F1⟩ := cal_close (d := d) tgb.2 hd hR hl hM (μ := 7) (by omega)
  obtain ⟨M2, F2⟩ := M1.push (sg (tks x i)) hS60
  have hS1 := M1.1.1
  have hS2 := M2.1.1
  obtain ⟨c1, c2, c3⟩ := M1.2.2.1
  obtain ⟨h3, k3, M3, F3⟩ := M2.step hk.2.1 (μ := 7) (by omega)
  have hS3 := M3.1.1
  have cu := cal_unit hS3
  have b : inBd (nI S.length) 160 = true := inBd_nI (by omega) (by omega)
  have t := tc_nI (show S.length < 2147483648 by omega)
  refine ⟨h3, ?_, M3, (F1.trans F2).trans F3⟩
  unfold KF UF KF
  conv => lhs; rw [B_232_36]
  by_cases c4 : tg (tks x i) = 4
  · have hrel := s_Mo_hasRelation hM hv (μ := 7) (by omega)
    rw [h4 c4, b2i_f] at hrel
    have e4 : nI (tg (tks x i)) = 4 := by rw [c4]; rfl
    rw [e4] at st k1
    simp (disch := first | assumption | exact b2i_01 _ | decide | omega | (simp only [kd_sI, ln_sI, hl_sI, gL_sI, gR_sI, kd_sL, ln_sL, hl_sL, gI_sL, gR_sL, kd_sR, ln_sR, hl_sR, gI_sR, gL_sR, kd_cpI, ln_cpI, hl_cpI, gL_cpI, gR_cpI, gI_cpI, gI_sI, gL_sL, gR_sR, St_sI, St_sL, St_cpI, Nat.reduceEqDiff, Nat.reduceAdd, eq_self, false_and, and_false, true_and, and_true, and_self, if_true, if_false, false_or, or_false, true_or, or_true, not_true_eq_false, not_false_eq_true, reduceIte, K_66, F_66_0, F_66_10, F_66_11, F_66_12, F_66_13, F_66_14, F_66_15, F_66_16, F_66_17, F_66_18, F_66_25, F_66_26, F_66_27, F_66_28, F_66_29, F_66_30, F_66_31, F_66_32, F_66_33, F_66_34, F_66_35, F_66_36, F_66_37, F_66_38, F_66_39, F_66_60, F_66_61, F_66_62, F_66_63, F_66_66, F_66_68, F_66_69, F_66_71, F_66_72, F_66_73, F_66_74, F_66_77, F_66_78, F_66_79, F_66_80, F_66_81, F_66_84, F_66_85, F_66_86, F_66_87, K_75, N_75, hS, e10, f0, sgn1, k6, k41, sg0, st, hrel, k1, hS1, c1, b, t, nI_1, hS2, k3, cu, List.length_nil, List.length_cons, Nat.zero_le] <;> first | done | decide | omega | fail) | fail) only [B_232_0, e_aload_n_0, e_iload_n_1, P_1219, G_1213, G_1219, e_iconst_0, e_iastore, P_1220, P_1224, P_1223, e_call_1, psh_s, psh_n, Option.bind_some, e_iconst_1, e_istore_n_2, clr_i, clr_l, clr_a, clr_n, e_gotow, T_232_36, e_iload_n_2, e_if_eq, G_1202, e_if_ne, e_istore_n_3, G_1206, e_bipush_41, e_ic_ne, e_call_2, e_dup_i, e_dup_a, G_1220, e_isub, G_1224, e_goto, T_232_100, B_232_100, e_iload_n_3, e_iconst_4, T_232_119, B_232_119, G_1217, e_iadd, T_232_158, B_232_158, T_232_160, B_232_160, T_232_163, B_232_163, e_iconst_2, T_232_182, B_232_182, T_232_194, B_232_194, R_232, kd_sI, ln_sI, hl_sI, gL_sI, gR_sI, kd_sL, ln_sL, hl_sL, gI_sL, gR_sL, kd_sR, ln_sR, hl_sR, gI_sR, gL_sR, kd_cpI, ln_cpI, hl_cpI, gL_cpI, gR_cpI, gI_cpI, gI_sI, gL_sL, gR_sR, St_sI, St_sL, St_cpI, Nat.reduceEqDiff, Nat.reduceAdd, eq_self, false_and, and_false, true_and, and_true, and_self, if_true, if_false, false_or, or_false, true_or, or_true, not_true_eq_false, not_false_eq_true, reduceIte, K_66, F_66_0, F_66_10, F_66_11, F_66_12, F_66_13, F_66_14, F_66_15, F_66_16, F_66_17, F_66_18, F_66_25, F_66_26, F_66_27, F_66_28, F_66_29, F_66_30, F_66_31, F_66_32, F_66_33, F_66_34, F_66_35, F_66_36, F_66_37, F_66_38, F_66_39, F_66_60, F_66_61, F_66_62, F_66_63, F_66_66, F_66_68, F_66_69, F_66_71, F_66_72, F_66_73, F_66_74, F_66_77, F_66_78, F_66_79, F_66_80, F_66_81, F_66_84, F_66_85, F_66_86, F_66_87, K_75, N_75, e10, f0, sgn1, k6, k41, sg0, st, hrel, k1, hS1, c1, b, t, nI_1, hS2, k3, cu, List.length_nil, List.length_cons, Nat.zero_le]
  · have e4 : ¬ nI (tg (tks x i)) = 4 := fun z => c4 ((eq_nI (a := tg (tks x i)) (b := 4) (by omega) (by omega)).mp z)
    simp (disch := first | assumption | exact b2i_01 _ | decide | omega | (simp only [kd_sI, ln_sI, hl_sI, gL_sI, gR_sI, kd_sL, ln_sL, hl_sL, gI_sL, gR_sL, kd_sR, ln_sR, hl_sR, gI_sR, gL_sR, kd_cpI, ln_cpI, hl_cpI, gL_cpI, gR_cpI, gI_cpI, gI_sI, gL_sL, gR_sR, St_sI, St_sL, St_cpI, Nat.reduceEqDiff, Nat.reduceAdd, eq_self, false_and, and_false, true_and, and_true, and_self, if_true, if_false, false_or, or_false, true_or, or_true, not_true_eq_false, not_false_eq_true, reduceIte, K_66, F_66_0, F_66_10, F_66_11, F_66_12, F_66_13, F_66_14, F_66_15, F_66_16, F_66_17, F_66_18, F_66_25, F_66_26, F_66_27, F_66_28, F_66_29, F_66_30, F_66_31, F_66_32, F_66_33, F_66_34, F_66_35, F_66_36, F_66_37, F_66_38, F_66_39, F_66_60, F_66_61, F_66_62, F_66_63, F_66_66, F_66_68, F_66_69, F_66_71, F_66_72, F_66_73, F_66_74, F_66_77, F_66_78, F_66_79, F_66_80, F_66_81, F_66_84, F_66_85, F_66_86, F_66_87, K_75, N_75, hS, e10, f0, sgn1, k6, k41, sg0, st, e4, k1, hS1, c1, b, t, nI_1, hS2, k3, cu, List.length_nil, List.length_cons, Nat.zero_le] <;> first | done | decide | omega | fail) | fail) only [B_232_0, e_aload_n_0, e_iload_n_1, P_1219, G_1213, G_1219, e_iconst_0, e_iastore, P_1220, P_1224, P_1223, e_call_1, psh_s, psh_n, Option.bind_some, e_iconst_1, e_istore_n_2, clr_i, clr_l, clr_a, clr_n, e_gotow, T_232_36, e_iload_n_2, e_if_eq, G_1202, e_if_ne, e_istore_n_3, G_1206, e_bipush_41, e_ic_ne, e_call_2, e_dup_i, e_dup_a, G_1220, e_isub, G_1224, e_goto, T_232_100, B_232_100, e_iload_n_3, e_iconst_4, T_232_119, B_232_119, G_1217, e_iadd, T_232_158, B_232_158, T_232_160, B_232_160, T_232_163, B_232_163, e_iconst_2, T_232_182, B_232_182, T_232_194, B_232_194, R_232, kd_sI, ln_sI, hl_sI, gL_sI, gR_sI, kd_sL, ln_sL, hl_sL, gI_sL, gR_sL, kd_sR, ln_sR, hl_sR, gI_sR, gL_sR, kd_cpI, ln_cpI, hl_cpI, gL_cpI, gR_cpI, gI_cpI, gI_sI, gL_sL, gR_sR, St_sI, St_sL, St_cpI, Nat.reduceEqDiff, Nat.reduceAdd, eq_self, false_and, and_false, true_and, and_true, and_self, if_true, if_false, false_or, or_false, true_or, or_true, not_true_eq_false, not_false_eq_true, reduceIte, K_66, F_66_0, F_66_10, F_66_11, F_66_12, F_66_13, F_66_14, F_66_15, F_66_16, F_66_17, F_66_18, F_66_25, F_66_26, F_66_27, F_66_28, F_66_29, F_66_30, F_66_31, F_66_32, F_66_33, F_66_34, F_66_35, F_66_36, F_66_37, F_66_38, F_66_39, F_66_60, F_66_61, F_66_62, F_66_63, F_66_66, F_66_68, F_66_69, F_66_71, F_66_72, F_66_73, F_66_74, F_66_77, F_66_78, F_66_79, F_66_80, F_66_81, F_66_84, F_66_85, F_66_86, F_66_87, K_75, N_75, e10, f0, sgn1, k6, k41, sg0, st, e4, k1, hS1, c1, b, t, nI_1, hS2, k3, cu, List.length_nil, List.length_cons, Nat.zero_le]
theorem hb_app (R S : List Int32) : hb (R ++ S) = (hb R || hb S) := by unfold hb; rw [List.any_append]
theorem kf_par {x : Txt} {N : List Int64} {w i u own d : Nat} {R S : List Int32} {E : List (Int32 × Int32)} {h : MH} (l3 : Option Value) (hM : MF x N w i u own (d + 1 + n21 R) (R ++ 20 :: S) E h) (hp : isS (tks x i) 41 = true) (hR : ∀ a ∈ R, opc a) (hl : E.length + R.length ≤ 320) : ∃ h', KF w l3 [] h = KF w (some (.int 0)) [] h' ∧ MF x N w (i + 1) u own d S (E ++ R.map sto) h' ∧ FM w h h' := by
  have hS := hM.1.1
  have hx := hM.1.2.1.1
  have e10 : ((1 : Int32) = 0) = False := by simp
  have ht := tks_o hx i
  have f0 := hM.2.1.1
  have sgn1 := s_Mo_sign hM (μ := 7) (by omega)
  have hk := isS_k.mp hp
  have ht0 : tg (tks x i) = 0 := by
    unfold tg
    rw [if_neg (by omega), if_pos hk.1, hk.2]
    decide
  unfold sgM at sgn1
  rw [if_pos ht0] at sgn1
  have k6 : gI h 66 6 = 41 := by rw [hM.1.2.2.1]; exact (kM_s ht (c := 41) (by decide) (by decide)).mpr hp
  have hbr := s_Mo_hasBracket hM (μ := 7) (by omega)
  rw [hb_app, show hb (20 :: S) = true from by unfold hb; rw [List.any_cons]; rfl, Bool.or_true, b2i_t] at hbr
  obtain ⟨h1, k1, M1, F1⟩ := cal_close (m := 0) (d := d + 1) (S := 20 :: S) (by omega) (Or.inl rfl) (fun a ha => ⟨hR a ha, by omega⟩) hl hM (μ := 7) (by omega)
  have k1 : cal 242 [.ref 66, .int 0] 7 h = some (none, h1) := k1
  have hS1 := M1.1.1
  obtain ⟨c1, c2, c3⟩ := M1.2.2.1
  rw [List.length_cons] at c1 c2
  have sb := sub1_nI (n := S.length + 1) (by omega)
  rw [Nat.add_sub_cancel] at sb
  obtain ⟨M2, F2, -⟩ := M1.pop
  obtain ⟨M3, F3⟩ := M2.deep d
  have d24 := M1.2.2.2.1.2.2
  have sd := sub1_nI (n := d + 1) (by omega)
  rw [Nat.add_sub_cancel] at sd
  have hS3 := M3.1.1
  obtain ⟨h4, k4, M4, F4⟩ := M3.step (by omega) (μ := 7) (by omega)
  refine ⟨h4, ?_, M4, ((F1.trans F2).trans F3).trans F4⟩
  unfold KF
  conv => lhs; rw [B_232_36]
  simp (disch := first | assumption | exact b2i_01 _ | decide | omega | (simp only [kd_sI, ln_sI, hl_sI, gL_sI, gR_sI, kd_sL, ln_sL, hl_sL, gI_sL, gR_sL, kd_sR, ln_sR, hl_sR, gI_sR, gL_sR, kd_cpI, ln_cpI, hl_cpI, gL_cpI, gR_cpI, gI_cpI, gI_sI, gL_sL, gR_sR, St_sI, St_sL, St_cpI, Nat.reduceEqDiff, Nat.reduceAdd, eq_self, false_and, and_false, true_and, and_true, and_self, if_true, if_false, false_or, or_false, true_or, or_true, not_true_eq_false, not_false_eq_true, reduceIte, K_66, F_66_0, F_66_10, F_66_11, F_66_12, F_66_13, F_66_14, F_66_15, F_66_16, F_66_17, F_66_18, F_66_25, F_66_26, F_66_27, F_66_28, F_66_29, F_66_30, F_66_31, F_66_32, F_66_33, F_66_34, F_66_35, F_66_36, F_66_37, F_66_38, F_66_39, F_66_60, F_66_61, F_66_62, F_66_63, F_66_66, F_66_68, F_66_69, F_66_71, F_66_72, F_66_73, F_66_74, F_66_77, F_66_78, F_66_79, F_66_80, F_66_81, F_66_84, F_66_85, F_66_86, F_66_87, K_75, N_75, hS, e10, f0, sgn1, k6, hbr, k1, hS1, c1, sb, d24, sd, k4, List.length_nil, List.length_cons, Nat.zero_le] <;> first | done | decide | omega | fail) | fail) only [B_232_0, e_aload_n_0, e_iload_n_1, P_1219, G_1213, G_1219, e_iconst_0, e_iastore, P_1220, P_1224, P_1223, e_call_1, psh_s, psh_n, Option.bind_some, e_iconst_1, e_istore_n_2, clr_i, clr_l, clr_a, clr_n, e_gotow, T_232_36, e_iload_n_2, e_if_eq, G_1202, e_if_ne, e_istore_n_3, G_1206, e_bipush_41, e_ic_ne, e_call_2, e_dup_i, e_dup_a, G_1220, e_isub, G_1224, e_goto, T_232_100, B_232_100, e_iload_n_3, e_iconst_4, T_232_119, B_232_119, G_1217, e_iadd, T_232_158, B_232_158, T_232_160, B_232_160, T_232_163, B_232_163, e_iconst_2, T_232_182, B_232_182, T_232_194, B_232_194, R_232, kd_sI, ln_sI, hl_sI, gL_sI, gR_sI, kd_sL, ln_sL, hl_sL, gI_sL, gR_sL, kd_sR, ln_sR, hl_sR, gI_sR, gL_sR, kd_cpI, ln_cpI, hl_cpI, gL_cpI, gR_cpI, gI_cpI, gI_sI, gL_sL, gR_sR, St_sI, St_sL, St_cpI, Nat.reduceEqDiff, Nat.reduceAdd, eq_self, false_and, and_false, true_and, and_true, and_self, if_true, if_false, false_or, or_false, true_or, or_true, not_true_eq_false, not_false_eq_true, reduceIte, K_66, F_66_0, F_66_10, F_66_11, F_66_12, F_66_13, F_66_14, F_66_15, F_66_16, F_66_17, F_66_18, F_66_25, F_66_26, F_66_27, F_66_28, F_66_29, F_66_30, F_66_31, F_66_32, F_66_33, F_66_34, F_66_35, F_66_36, F_66_37, F_66_38, F_66_39, F_66_60, F_66_61, F_66_62, F_66_63, F_66_66, F_66_68, F_66_69, F_66_71, F_66_72, F_66_73, F_66_74, F_66_77, F_66_78, F_66_79, F_66_80, F_66_81, F_66_84, F_66_85, F_66_86, F_66_87, K_75, N_75, e10, f0, sgn1, k6, hbr, k1, hS1, c1, sb, d24, sd, k4, List.length_nil, List.length_cons, Nat.zero_le]
theorem kf_end {x : Txt} {N : List Int64} {w i u own dd : Nat} {S : List Int32} {E : List (Int32 × Int32)} {h : MH} (l3 : Option Value) (hM : MF x N w i u own dd S E h) (hv : ∀ a ∈ S, a = 20 ∨ opc a) (ht : tg (tks x i) = 0 ∨ (tg (tks x i) = 4 ∧ hr S = true)) (hp : isS (tks x i) 41 = true → hb S = false) : ∃ l, KF w l3 [] h = rn 232 7 B_232_163 [some (.ref 66), some (.int (nI w)), some (.int 0), l] [] h := by
  have hS := hM.1.1
  have hx := hM.1.2.1.1
  have e10 : ((1 : Int32) = 0) = False := by simp
  have hto := tks_o hx i
  have f0 := hM.2.1.1
  have sgn1 := s_Mo_sign hM (μ := 7) (by omega)
  have k6 := hM.1.2.2.1
  refine ⟨some (.int (sgM (tks x i))), ?_⟩
  unfold KF
  have e36 : rn 232 7 B_232_36 [some (.ref 66), some (.int (nI w)), some (.int 0), some (.int (sgM (tks x i)))] [] h = rn 232 7 B_232_163 [some (.ref 66), some (.int (nI w)), some (.int 0), some (.int (sgM (tks x i)))] [] h := by
    conv => lhs; rw [B_232_36]
    simp (disch := first | assumption | exact b2i_01 _ | decide | omega | (simp only [kd_sI, ln_sI, hl_sI, gL_sI, gR_sI, kd_sL, ln_sL, hl_sL, gI_sL, gR_sL, kd_sR, ln_sR, hl_sR, gI_sR, gL_sR, kd_cpI, ln_cpI, hl_cpI, gL_cpI, gR_cpI, gI_cpI, gI_sI, gL_sL, gR_sR, St_sI, St_sL, St_cpI, Nat.reduceEqDiff, Nat.reduceAdd, eq_self, false_and, and_false, true_and, and_true, and_self, if_true, if_false, false_or, or_false, true_or, or_true, not_true_eq_false, not_false_eq_true, reduceIte, K_66, F_66_0, F_66_10, F_66_11, F_66_12, F_66_13, F_66_14, F_66_15, F_66_16, F_66_17, F_66_18, F_66_25, F_66_26, F_66_27, F_66_28, F_66_29, F_66_30, F_66_31, F_66_32, F_66_33, F_66_34, F_66_35, F_66_36, F_66_37, F_66_38, F_66_39, F_66_60, F_66_61, F_66_62, F_66_63, F_66_66, F_66_68, F_66_69, F_66_71, F_66_72, F_66_73, F_66_74, F_66_77, F_66_78, F_66_79, F_66_80, F_66_81, F_66_84, F_66_85, F_66_86, F_66_87, hS] <;> first | done | decide | omega | fail) | fail) only [B_232_0, e_aload_n_0, e_iload_n_1, P_1219, G_1213, G_1219, e_iconst_0, e_iastore, P_1220, P_1224, P_1223, e_call_1, psh_s, psh_n, Option.bind_some, e_iconst_1, e_istore_n_2, clr_i, clr_l, clr_a, clr_n, e_gotow, T_232_36, e_iload_n_2, e_if_eq, G_1202, e_if_ne, e_istore_n_3, G_1206, e_bipush_41, e_ic_ne, e_call_2, e_dup_i, e_dup_a, G_1220, e_isub, G_1224, e_goto, T_232_100, B_232_100, e_iload_n_3, e_iconst_4, T_232_119, B_232_119, G_1217, e_iadd, T_232_158, B_232_158, T_232_160, B_232_160, T_232_163, e_iconst_2, T_232_182, B_232_182, T_232_194, B_232_194, R_232, kd_sI, ln_sI, hl_sI, gL_sI, gR_sI, kd_sL, ln_sL, hl_sL, gI_sL, gR_sL, kd_sR, ln_sR, hl_sR, gI_sR, gL_sR, kd_cpI, ln_cpI, hl_cpI, gL_cpI, gR_cpI, gI_cpI, gI_sI, gL_sL, gR_sR, St_sI, St_sL, St_cpI, Nat.reduceEqDiff, Nat.reduceAdd, eq_self, false_and, and_false, true_and, and_true, and_self, if_true, if_false, false_or, or_false, true_or, or_true, not_true_eq_false, not_false_eq_true, reduceIte, K_66, F_66_0, F_66_10, F_66_11, F_66_12, F_66_13, F_66_14, F_66_15, F_66_16, F_66_17, F_66_18, F_66_25, F_66_26, F_66_27, F_66_28, F_66_29, F_66_30, F_66_31, F_66_32, F_66_33, F_66_34, F_66_35, F_66_36, F_66_37, F_66_38, F_66_39, F_66_60, F_66_61, F_66_62, F_66_63, F_66_66, F_66_68, F_66_69, F_66_71, F_66_72, F_66_73, F_66_74, F_66_77, F_66_78, F_66_79, F_66_80, F_66_81, F_66_84, F_66_85, F_66_86, F_66_87]
  rw [← e36]
  conv => lhs; rw [B_232_36]
  rcases ht with ht0 | ⟨ht4, hrl⟩
  · have z0 : sgM (tks x i) = 0 := by unfold sgM; rw [if_pos ht0]
    rw [z0] at sgn1 ⊢
    by_cases c : isS (tks x i) 41 = true
    · have k6' : gI h 66 6 = 41 := by rw [k6]; exact (kM_s hto (c := 41) (by decide) (by decide)).mpr c
      have hbr := s_Mo_hasBracket hM (μ := 7) (by omega)
      rw [hp c, b2i_f] at hbr
      simp (disch := first | assumption | exact b2i_01 _ | decide | omega | (simp only [kd_sI, ln_sI, hl_sI, gL_sI, gR_sI, kd_sL, ln_sL, hl_sL, gI_sL, gR_sL, kd_sR, ln_sR, hl_sR, gI_sR, gL_sR, kd_cpI, ln_cpI, hl_cpI, gL_cpI, gR_cpI, gI_cpI, gI_sI, gL_sL, gR_sR, St_sI, St_sL, St_cpI, Nat.reduceEqDiff, Nat.reduceAdd, eq_self, false_and, and_false, true_and, and_true, and_self, if_true, if_false, false_or, or_false, true_or, or_true, not_true_eq_false, not_false_eq_true, reduceIte, K_66, F_66_0, F_66_10, F_66_11, F_66_12, F_66_13, F_66_14, F_66_15, F_66_16, F_66_17, F_66_18, F_66_25, F_66_26, F_66_27, F_66_28, F_66_29, F_66_30, F_66_31, F_66_32, F_66_33, F_66_34, F_66_35, F_66_36, F_66_37, F_66_38, F_66_39, F_66_60, F_66_61, F_66_62, F_66_63, F_66_66, F_66_68, F_66_69, F_66_71, F_66_72, F_66_73, F_66_74, F_66_77, F_66_78, F_66_79, F_66_80, F_66_81, F_66_84, F_66_85, F_66_86, F_66_87, hS, e10, f0, sgn1, k6', hbr, List.length_nil, List.length_cons, Nat.zero_le] <;> first | done | decide | omega | fail) | fail) only [B_232_0, e_aload_n_0, e_iload_n_1, P_1219, G_1213, G_1219, e_iconst_0, e_iastore, P_1220, P_1224, P_1223, e_call_1, psh_s, psh_n, Option.bind_some, e_iconst_1, e_istore_n_2, clr_i, clr_l, clr_a, clr_n, e_gotow, T_232_36, e_iload_n_2, e_if_eq, G_1202, e_if_ne, e_istore_n_3, G_1206, e_bipush_41, e_ic_ne, e_call_2, e_dup_i, e_dup_a, G_1220, e_isub, G_1224, e_goto, T_232_100, B_232_100, e_iload_n_3, e_iconst_4, T_232_119, B_232_119, G_1217, e_iadd, T_232_158, B_232_158, T_232_160, B_232_160, T_232_163, B_232_163, e_iconst_2, T_232_182, B_232_182, T_232_194, B_232_194, R_232, kd_sI, ln_sI, hl_sI, gL_sI, gR_sI, kd_sL, ln_sL, hl_sL, gI_sL, gR_sL, kd_sR, ln_sR, hl_sR, gI_sR, gL_sR, kd_cpI, ln_cpI, hl_cpI, gL_cpI, gR_cpI, gI_cpI, gI_sI, gL_sL, gR_sR, St_sI, St_sL, St_cpI, Nat.reduceEqDiff, Nat.reduceAdd, eq_self, false_and, and_false, true_and, and_true, and_self, if_true, if_false, false_or, or_false, true_or, or_true, not_true_eq_false, not_false_eq_true, reduceIte, K_66, F_66_0, F_66_10, F_66_11, F_66_12, F_66_13, F_66_14, F_66_15, F_66_16, F_66_17, F_66_18, F_66_25, F_66_26, F_66_27, F_66_28, F_66_29, F_66_30, F_66_31, F_66_32, F_66_33, F_66_34, F_66_35, F_66_36, F_66_37, F_66_38, F_66_39, F_66_60, F_66_61, F_66_62, F_66_63, F_66_66, F_66_68, F_66_69, F_66_71, F_66_72, F_66_73, F_66_74, F_66_77, F_66_78, F_66_79, F_66_80, F_66_81, F_66_84, F_66_85, F_66_86, F_66_87, e10, f0, sgn1, k6', hbr, List.length_nil, List.length_cons, Nat.zero_le]
    · have k41 : ¬ kM (tks x i) = 41 := fun z => c ((kM_s hto (c := 41) (by decide) (by decide)).mp z)
      simp (disch := first | assumption | exact b2i_01 _ | decide | omega | (simp only [kd_sI, ln_sI, hl_sI, gL_sI, gR_sI, kd_sL, ln_sL, hl_sL, gI_sL, gR_sL, kd_sR, ln_sR, hl_sR, gI_sR, gL_sR, kd_cpI, ln_cpI, hl_cpI, gL_cpI, gR_cpI, gI_cpI, gI_sI, gL_sL, gR_sR, St_sI, St_sL, St_cpI, Nat.reduceEqDiff, Nat.reduceAdd, eq_self, false_and, and_false, true_and, and_true, and_self, if_true, if_false, false_or, or_false, true_or, or_true, not_true_eq_false, not_false_eq_true, reduceIte, K_66, F_66_0, F_66_10, F_66_11, F_66_12, F_66_13, F_66_14, F_66_15, F_66_16, F_66_17, F_66_18, F_66_25, F_66_26, F_66_27, F_66_28, F_66_29, F_66_30, F_66_31, F_66_32, F_66_33, F_66_34, F_66_35, F_66_36, F_66_37, F_66_38, F_66_39, F_66_60, F_66_61, F_66_62, F_66_63, F_66_66, F_66_68, F_66_69, F_66_71, F_66_72, F_66_73, F_66_74, F_66_77, F_66_78, F_66_79, F_66_80, F_66_81, F_66_84, F_66_85, F_66_86, F_66_87, hS, e10, f0, sgn1, k6, k41, List.length_nil, List.length_cons, Nat.zero_le] <;> first | done | decide | omega | fail) | fail) only [B_232_0, e_aload_n_0, e_iload_n_1, P_1219, G_1213, G_1219, e_iconst_0, e_iastore, P_1220, P_1224, P_1223, e_call_1, psh_s, psh_n, Option.bind_some, e_iconst_1, e_istore_n_2, clr_i, clr_l, clr_a, clr_n, e_gotow, T_232_36, e_iload_n_2, e_if_eq, G_1202, e_if_ne, e_istore_n_3, G_1206, e_bipush_41, e_ic_ne, e_call_2, e_dup_i, e_dup_a, G_1220, e_isub, G_1224, e_goto, T_232_100, B_232_100, e_iload_n_3, e_iconst_4, T_232_119, B_232_119, G_1217, e_iadd, T_232_158, B_232_158, T_232_160, B_232_160, T_232_163, B_232_163, e_iconst_2, T_232_182, B_232_182, T_232_194, B_232_194, R_232, kd_sI, ln_sI, hl_sI, gL_sI, gR_sI, kd_sL, ln_sL, hl_sL, gI_sL, gR_sL, kd_sR, ln_sR, hl_sR, gI_sR, gL_sR, kd_cpI, ln_cpI, hl_cpI, gL_cpI, gR_cpI, gI_cpI, gI_sI, gL_sL, gR_sR, St_sI, St_sL, St_cpI, Nat.reduceEqDiff, Nat.reduceAdd, eq_self, false_and, and_false, true_and, and_true, and_self, if_true, if_false, false_or, or_false, true_or, or_true, not_true_eq_false, not_false_eq_true, reduceIte, K_66, F_66_0, F_66_10, F_66_11, F_66_12, F_66_13, F_66_14, F_66_15, F_66_16, F_66_17, F_66_18, F_66_25, F_66_26, F_66_27, F_66_28, F_66_29, F_66_30, F_66_31, F_66_32, F_66_33, F_66_34, F_66_35, F_66_36, F_66_37, F_66_38, F_66_39, F_66_60, F_66_61, F_66_62, F_66_63, F_66_66, F_66_68, F_66_69, F_66_71, F_66_72, F_66_73, F_66_74, F_66_77, F_66_78, F_66_79, F_66_80, F_66_81, F_66_84, F_66_85, F_66_86, F_66_87, e10, f0, sgn1, k6, k41, List.length_nil, List.length_cons, Nat.zero_le]
  · have ht0 : ¬ tg (tks x i) = 0 := by omega
    have z0 : sgM (tks x i) = sg (tks x i) := by unfold sgM; rw [if_neg ht0]
    rw [z0] at sgn1 ⊢
    obtain ⟨tg1, op1⟩ := tgh_sg ht0
    have st := s_Mo_tight (h := h) op1 (μ := 7) (by omega)
    rw [tg1, ht4] at st
    have st : cal 235 [.int (sg (tks x i))] 7 h = some (some (.int 4), h) := st
    have sg0 : ¬ sg (tks x i) = 0 := by
      intro z
      rw [z] at op1
      unfold opc sgn at op1
      revert op1
      decide
    have k41 : ¬ kM (tks x i) = 41 := fun z => by
      have := (kM_s hto (c := 41) (by decide) (by decide)).mp z
      have := isS_k.mp this
      apply ht0
      unfold tg
      rw [if_neg (by omega), if_pos this.1, this.2]
      decide
    have hrel := s_Mo_hasRelation hM hv (μ := 7) (by omega)
    rw [hrl, b2i_t] at hrel
    simp (disch := first | assumption | exact b2i_01 _ | decide | omega | (simp only [kd_sI, ln_sI, hl_sI, gL_sI, gR_sI, kd_sL, ln_sL, hl_sL, gI_sL, gR_sL, kd_sR, ln_sR, hl_sR, gI_sR, gL_sR, kd_cpI, ln_cpI, hl_cpI, gL_cpI, gR_cpI, gI_cpI, gI_sI, gL_sL, gR_sR, St_sI, St_sL, St_cpI, Nat.reduceEqDiff, Nat.reduceAdd, eq_self, false_and, and_false, true_and, and_true, and_self, if_true, if_false, false_or, or_false, true_or, or_true, not_true_eq_false, not_false_eq_true, reduceIte, K_66, F_66_0, F_66_10, F_66_11, F_66_12, F_66_13, F_66_14, F_66_15, F_66_16, F_66_17, F_66_18, F_66_25, F_66_26, F_66_27, F_66_28, F_66_29, F_66_30, F_66_31, F_66_32, F_66_33, F_66_34, F_66_35, F_66_36, F_66_37, F_66_38, F_66_39, F_66_60, F_66_61, F_66_62, F_66_63, F_66_66, F_66_68, F_66_69, F_66_71, F_66_72, F_66_73, F_66_74, F_66_77, F_66_78, F_66_79, F_66_80, F_66_81, F_66_84, F_66_85, F_66_86, F_66_87, hS, e10, f0, sgn1, k6, k41, sg0, st, hrel, List.length_nil, List.length_cons, Nat.zero_le] <;> first | done | decide | omega | fail) | fail) only [B_232_0, e_aload_n_0, e_iload_n_1, P_1219, G_1213, G_1219, e_iconst_0, e_iastore, P_1220, P_1224, P_1223, e_call_1, psh_s, psh_n, Option.bind_some, e_iconst_1, e_istore_n_2, clr_i, clr_l, clr_a, clr_n, e_gotow, T_232_36, e_iload_n_2, e_if_eq, G_1202, e_if_ne, e_istore_n_3, G_1206, e_bipush_41, e_ic_ne, e_call_2, e_dup_i, e_dup_a, G_1220, e_isub, G_1224, e_goto, T_232_100, B_232_100, e_iload_n_3, e_iconst_4, T_232_119, B_232_119, G_1217, e_iadd, T_232_158, B_232_158, T_232_160, B_232_160, T_232_163, B_232_163, e_iconst_2, T_232_182, B_232_182, T_232_194, B_232_194, R_232, kd_sI, ln_sI, hl_sI, gL_sI, gR_sI, kd_sL, ln_sL, hl_sL, gI_sL, gR_sL, kd_sR, ln_sR, hl_sR, gI_sR, gL_sR, kd_cpI, ln_cpI, hl_cpI, gL_cpI, gR_cpI, gI_cpI, gI_sI, gL_sL, gR_sR, St_sI, St_sL, St_cpI, Nat.reduceEqDiff, Nat.reduceAdd, eq_self, false_and, and_false, true_and, and_true, and_self, if_true, if_false, false_or, or_false, true_or, or_true, not_true_eq_false, not_false_eq_true, reduceIte, K_66, F_66_0, F_66_10, F_66_11, F_66_12, F_66_13, F_66_14, F_66_15, F_66_16, F_66_17, F_66_18, F_66_25, F_66_26, F_66_27, F_66_28, F_66_29, F_66_30, F_66_31, F_66_32, F_66_33, F_66_34, F_66_35, F_66_36, F_66_37, F_66_38, F_66_39, F_66_60, F_66_61, F_66_62, F_66_63, F_66_66, F_66_68, F_66_69, F_66_71, F_66_72, F_66_73, F_66_74, F_66_77, F_66_78, F_66_79, F_66_80, F_66_81, F_66_84, F_66_85, F_66_86, F_66_87, e10, f0, sgn1, k6, k41, sg0, st, hrel, List.length_nil, List.length_cons, Nat.zero_le]
theorem kf_endB {x : Txt} {N : List Int64} {w i u own dd : Nat} {S : List Int32} {E : List (Int32 × Int32)} {h : MH} (l3 : Option Value) (hM : MF x N w i u own dd S E h) (hv : ∀ a ∈ S, a = 20 ∨ opc a) (ht : tg (tks x i) = 0 ∨ (tg (tks x i) = 4 ∧ hr S = true)) (hp : ¬ isS (tks x i) 41 = true) (hB : hb S = true) : ∃ h', KF w l3 [] h = some (none, h') ∧ BM (if tkK (tks x i) = 1 then 1 else 2) (tkS (tks x i)) h' ∧ FM w h h' := by
  have hS := hM.1.1
  have e10 : ((1 : Int32) = 0) = False := by simp
  have f0 := hM.2.1.1
  obtain ⟨l, e⟩ := kf_end l3 hM hv ht (fun z => absurd z hp)
  obtain ⟨h1, k1, B1, s1⟩ := hM.wrongS (c := 2) (by decide) (by decide) (μ := 7) (by omega)
  have k1 : cal 222 [.ref 66, .int 2] 7 h = some (none, h1) := k1
  refine ⟨h1, ?_, B1, W23_M s1⟩
  have hbr := s_Mo_hasBracket hM (μ := 7) (by omega)
  rw [hB, b2i_t] at hbr
  rw [e, B_232_163]
  have hS1 := B1.1
  have nz := B1.nz.1
  simp (disch := first | assumption | exact b2i_01 _ | decide | omega | (simp only [kd_sI, ln_sI, hl_sI, gL_sI, gR_sI, kd_sL, ln_sL, hl_sL, gI_sL, gR_sL, kd_sR, ln_sR, hl_sR, gI_sR, gL_sR, kd_cpI, ln_cpI, hl_cpI, gL_cpI, gR_cpI, gI_cpI, gI_sI, gL_sL, gR_sR, St_sI, St_sL, St_cpI, Nat.reduceEqDiff, Nat.reduceAdd, eq_self, false_and, and_false, true_and, and_true, and_self, if_true, if_false, false_or, or_false, true_or, or_true, not_true_eq_false, not_false_eq_true, reduceIte, K_66, F_66_0, F_66_10, F_66_11, F_66_12, F_66_13, F_66_14, F_66_15, F_66_16, F_66_17, F_66_18, F_66_25, F_66_26, F_66_27, F_66_28, F_66_29, F_66_30, F_66_31, F_66_32, F_66_33, F_66_34, F_66_35, F_66_36, F_66_37, F_66_38, F_66_39, F_66_60, F_66_61, F_66_62, F_66_63, F_66_66, F_66_68, F_66_69, F_66_71, F_66_72, F_66_73, F_66_74, F_66_77, F_66_78, F_66_79, F_66_80, F_66_81, F_66_84, F_66_85, F_66_86, F_66_87, hS, f0, hbr, e10, k1, hS1, nz, List.length_nil, List.length_cons, Nat.zero_le] <;> first | done | decide | omega | fail) | fail) only [B_232_0, e_aload_n_0, e_iload_n_1, P_1219, G_1213, G_1219, e_iconst_0, e_iastore, P_1220, P_1224, P_1223, e_call_1, psh_s, psh_n, Option.bind_some, e_iconst_1, e_istore_n_2, clr_i, clr_l, clr_a, clr_n, e_gotow, T_232_36, e_iload_n_2, e_if_eq, G_1202, e_if_ne, e_istore_n_3, G_1206, e_bipush_41, e_ic_ne, e_call_2, e_dup_i, e_dup_a, G_1220, e_isub, G_1224, e_goto, T_232_100, B_232_100, e_iload_n_3, e_iconst_4, T_232_119, B_232_119, G_1217, e_iadd, T_232_158, B_232_158, T_232_160, B_232_160, T_232_163, e_iconst_2, T_232_182, B_232_182, T_232_194, B_232_194, R_232, kd_sI, ln_sI, hl_sI, gL_sI, gR_sI, kd_sL, ln_sL, hl_sL, gI_sL, gR_sL, kd_sR, ln_sR, hl_sR, gI_sR, gL_sR, kd_cpI, ln_cpI, hl_cpI, gL_cpI, gR_cpI, gI_cpI, gI_sI, gL_sL, gR_sR, St_sI, St_sL, St_cpI, Nat.reduceEqDiff, Nat.reduceAdd, eq_self, false_and, and_false, true_and, and_true, and_self, if_true, if_false, false_or, or_false, true_or, or_true, not_true_eq_false, not_false_eq_true, reduceIte, K_66, F_66_0, F_66_10, F_66_11, F_66_12, F_66_13, F_66_14, F_66_15, F_66_16, F_66_17, F_66_18, F_66_25, F_66_26, F_66_27, F_66_28, F_66_29, F_66_30, F_66_31, F_66_32, F_66_33, F_66_34, F_66_35, F_66_36, F_66_37, F_66_38, F_66_39, F_66_60, F_66_61, F_66_62, F_66_63, F_66_66, F_66_68, F_66_69, F_66_71, F_66_72, F_66_73, F_66_74, F_66_77, F_66_78, F_66_79, F_66_80, F_66_81, F_66_84, F_66_85, F_66_86, F_66_87, f0, hbr, e10, k1, hS1, nz, List.length_nil, List.length_cons, Nat.zero_le]
theorem kf_endG {x : Txt} {N : List Int64} {w i u own d : Nat} {R : List Int32} {E : List (Int32 × Int32)} {h : MH} (l3 : Option Value) (hM : MF x N w i u own (d + n21 R) R E h) (hR : ∀ a ∈ R, opc a) (ht : tg (tks x i) = 0 ∨ (tg (tks x i) = 4 ∧ hr R = true)) (hl : E.length + R.length ≤ 320) : ∃ h', KF w l3 [] h = some (none, h') ∧ MF x N w i u own d [] (E ++ R.map sto) h' ∧ FM w h h' := by
  have hS := hM.1.1
  have f0 := hM.2.1.1
  have hB : hb R = false := by
    unfold hb
    rw [List.any_eq_false]
    intro a ha z
    exact opc_20 (hR a ha) (by simpa using z)
  obtain ⟨l, e⟩ := kf_end l3 hM (fun a ha => Or.inr (hR a ha)) ht (fun _ => hB)
  have hM' : MF x N w i u own (d + n21 R) (R ++ []) E h := by rw [List.append_nil]; exact hM
  obtain ⟨h1, k1, M1, F1⟩ := cal_close (m := 0) (d := d) (S := []) (by omega) trivial (fun a ha => ⟨hR a ha, by omega⟩) hl hM' (μ := 7) (by omega)
  have k1 : cal 242 [.ref 66, .int 0] 7 h = some (none, h1) := k1
  refine ⟨h1, ?_, M1, F1⟩
  have hbr := s_Mo_hasBracket hM (μ := 7) (by omega)
  rw [hB, b2i_f] at hbr
  rw [e, B_232_163]
  simp (disch := first | assumption | exact b2i_01 _ | decide | omega | (simp only [kd_sI, ln_sI, hl_sI, gL_sI, gR_sI, kd_sL, ln_sL, hl_sL, gI_sL, gR_sL, kd_sR, ln_sR, hl_sR, gI_sR, gL_sR, kd_cpI, ln_cpI, hl_cpI, gL_cpI, gR_cpI, gI_cpI, gI_sI, gL_sL, gR_sR, St_sI, St_sL, St_cpI, Nat.reduceEqDiff, Nat.reduceAdd, eq_self, false_and, and_false, true_and, and_true, and_self, if_true, if_false, false_or, or_false, true_or, or_true, not_true_eq_false, not_false_eq_true, reduceIte, K_66, F_66_0, F_66_10, F_66_11, F_66_12, F_66_13, F_66_14, F_66_15, F_66_16, F_66_17, F_66_18, F_66_25, F_66_26, F_66_27, F_66_28, F_66_29, F_66_30, F_66_31, F_66_32, F_66_33, F_66_34, F_66_35, F_66_36, F_66_37, F_66_38, F_66_39, F_66_60, F_66_61, F_66_62, F_66_63, F_66_66, F_66_68, F_66_69, F_66_71, F_66_72, F_66_73, F_66_74, F_66_77, F_66_78, F_66_79, F_66_80, F_66_81, F_66_84, F_66_85, F_66_86, F_66_87, hS, f0, hbr, k1, List.length_nil, List.length_cons, Nat.zero_le] <;> first | done | decide | omega | fail) | fail) only [B_232_0, e_aload_n_0, e_iload_n_1, P_1219, G_1213, G_1219, e_iconst_0, e_iastore, P_1220, P_1224, P_1223, e_call_1, psh_s, psh_n, Option.bind_some, e_iconst_1, e_istore_n_2, clr_i, clr_l, clr_a, clr_n, e_gotow, T_232_36, e_iload_n_2, e_if_eq, G_1202, e_if_ne, e_istore_n_3, G_1206, e_bipush_41, e_ic_ne, e_call_2, e_dup_i, e_dup_a, G_1220, e_isub, G_1224, e_goto, T_232_100, B_232_100, e_iload_n_3, e_iconst_4, T_232_119, B_232_119, G_1217, e_iadd, T_232_158, B_232_158, T_232_160, B_232_160, T_232_163, e_iconst_2, T_232_182, B_232_182, T_232_194, B_232_194, R_232, kd_sI, ln_sI, hl_sI, gL_sI, gR_sI, kd_sL, ln_sL, hl_sL, gI_sL, gR_sL, kd_sR, ln_sR, hl_sR, gI_sR, gL_sR, kd_cpI, ln_cpI, hl_cpI, gL_cpI, gR_cpI, gI_cpI, gI_sI, gL_sL, gR_sR, St_sI, St_sL, St_cpI, Nat.reduceEqDiff, Nat.reduceAdd, eq_self, false_and, and_false, true_and, and_true, and_self, if_true, if_false, false_or, or_false, true_or, or_true, not_true_eq_false, not_false_eq_true, reduceIte, K_66, F_66_0, F_66_10, F_66_11, F_66_12, F_66_13, F_66_14, F_66_15, F_66_16, F_66_17, F_66_18, F_66_25, F_66_26, F_66_27, F_66_28, F_66_29, F_66_30, F_66_31, F_66_32, F_66_33, F_66_34, F_66_35, F_66_36, F_66_37, F_66_38, F_66_39, F_66_60, F_66_61, F_66_62, F_66_63, F_66_66, F_66_68, F_66_69, F_66_71, F_66_72, F_66_73, F_66_74, F_66_77, F_66_78, F_66_79, F_66_80, F_66_81, F_66_84, F_66_85, F_66_86, F_66_87, f0, hbr, k1, List.length_nil, List.length_cons, Nat.zero_le]
