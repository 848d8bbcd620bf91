theorem GrC.sm51 {o : Nat} {L : LD} {h h' : MH} (ho : Oo o) (g : GrC o L h) (s : Sm h h' [(51, none)]) : GrC o L h' := by
  obtain ⟨a, b, c, d, e⟩ := g
  have hr := Oo_rng ho
  have I : ∀ {a j : Nat}, ¬ a = 51 → gI h' a j = gI h a j := fun {a j} q => s.I (by
    unfold wr wr1
    simp only [List.any_cons, List.any_nil, show (51 == a) = false by simpa using fun z : 51 = a => q z.symm, Bool.false_and, Bool.or_self])
  exact ⟨s.St a (by decide +kernel), by rw [s.R rfl]; exact b, ⟨by rw [I (by omega)]; exact c.1, c.2⟩, fun x hx => by rw [I (by omega), I (by omega)]; exact d x hx, fun t ht => by rw [I (by omega)]; exact e t ht⟩
theorem lp_grow2 {o : Nat} {L : LD} (ho : Oo o) (hN2 : dN L ≤ 256) : ∀ m c h, c + m = 12 → GrC o L h → gI h 46 1 = nI (dN L) → (∀ k, k < dN L → gI h 49 k = dApp L k) → (∀ j, j < c → gI h 51 j = ovb L j (dC L)) → ∃ h', rn 14 7 B_14_72 [some (.ref 46), some (.ref o), some (.int (nI c))] [] h = rn 14 7 B_14_95 [some (.ref 46), some (.ref o), some (.int (nI 12))] [] h' ∧ (∀ j, j < 12 → gI h' 51 j = ovb L j (dC L)) ∧ Sm h h' [(51, none)] := by
  intro m
  induction m with
  | zero =>
    intro c h hc g c1 c2 c3
    obtain rfl : c = 12 := by omega
    have hS := g.1
    refine ⟨h, ?_, c3, Sm.rf h _⟩
    conv => lhs; rw [B_14_72]
    simp (disch := first | assumption | exact b2i_01 _ | decide | omega | (simp only [kd_sI, ln_sI, hl_sI, gL_sI, gR_sI, kd_sL, ln_sL, hl_sL, gI_sL, gR_sL, kd_sR, ln_sR, hl_sR, gI_sR, gL_sR, kd_cpI, ln_cpI, hl_cpI, gL_cpI, gR_cpI, gI_cpI, gI_sI, gL_sL, gR_sR, St_sI, St_sL, St_cpI, Nat.reduceEqDiff, Nat.reduceAdd, eq_self, false_and, and_false, true_and, and_true, and_self, if_true, if_false, false_or, or_false, true_or, or_true, not_true_eq_false, not_false_eq_true, reduceIte, K_46, F_46_2, F_46_3, F_46_4, F_46_5, F_46_6, F_46_7, hS, show ((12 : Int32) ≤ nI 12) = True by decide] <;> first | done | decide | omega | fail) | fail) only [B_14_0, e_aload_n_0, e_aload_n_1, P_0, e_call_1, psh_s, psh_n, Option.bind_some, e_iconst_0, e_istore_n_2, clr_i, clr_l, clr_a, clr_n, e_gotow, T_14_11, B_14_11, e_iload_n_2, G_1, e_ic_ge, e_sipush_256, e_call_2, G_4, e_i2s, e_sastore, G_5, G_0, G_511, e_bipush_12, G_3, e_call_3, e_iastore, e_iinc_2_1, e_goto, T_14_70, B_14_70, T_14_72, G_6, T_14_95, G_7, e_bipush_m3, R_14, kd_sI, ln_sI, hl_sI, gL_sI, gR_sI, kd_sL, ln_sL, hl_sL, gI_sL, gR_sL, kd_sR, ln_sR, hl_sR, gI_sR, gL_sR, kd_cpI, ln_cpI, hl_cpI, gL_cpI, gR_cpI, gI_cpI, gI_sI, gL_sL, gR_sR, St_sI, St_sL, St_cpI, Nat.reduceEqDiff, Nat.reduceAdd, eq_self, false_and, and_false, true_and, and_true, and_self, if_true, if_false, false_or, or_false, true_or, or_true, not_true_eq_false, not_false_eq_true, reduceIte, K_46, F_46_2, F_46_3, F_46_4, F_46_5, F_46_6, F_46_7, show ((12 : Int32) ≤ nI 12) = True by decide]
  | succ m ih =>
    intro c h hc g c1 c2 c3
    have hS := g.1
    have f := s_Ca_clausesOver ho g c1 hN2 c2 (show c < 12 by omega) (μ := 7) (by omega)
    have s1 : Sm h (sI h 51 c (ovb L c (dC L))) [(51, none)] := (Sm.rf h _).sI rfl
    obtain ⟨h2, z1, z2, z3⟩ := ih (c + 1) (sI h 51 c (ovb L c (dC L))) (by omega) (g.sm51 ho s1) (by rw [gI_sI, if_neg (by omega)]; exact c1) (fun k hk => by rw [gI_sI, if_neg (by omega)]; exact c2 k hk) (fun j hj => by
      rw [gI_sI]
      by_cases q : j = c
      · rw [if_pos ⟨rfl, q⟩, q]
      · rw [if_neg (fun z => q z.2)]; exact c3 j (by omega))
    refine ⟨h2, ?_, z2, s1.trans z3⟩
    rw [← z1]
    have b : inBd (nI c) 12 = true := inBd_nI (by omega) (by omega)
    have tt := tc_nI (show c < 2147483648 by omega)
    have lt : ((12 : Int32) ≤ nI c) = False := (eq_false (by simp (disch := omega) only [nI_lit, nI_add, lt_nI, le_nI, eq_nI] <;> omega) : ((12 : Int32) ≤ nI c) = False)
    conv => lhs; rw [B_14_72]
    simp (disch := first | assumption | exact b2i_01 _ | decide | omega | (simp only [kd_sI, ln_sI, hl_sI, gL_sI, gR_sI, kd_sL, ln_sL, hl_sL, gI_sL, gR_sL, kd_sR, ln_sR, hl_sR, gI_sR, gL_sR, kd_cpI, ln_cpI, hl_cpI, gL_cpI, gR_cpI, gI_cpI, gI_sI, gL_sL, gR_sR, St_sI, St_sL, St_cpI, Nat.reduceEqDiff, Nat.reduceAdd, eq_self, false_and, and_false, true_and, and_true, and_self, if_true, if_false, false_or, or_false, true_or, or_true, not_true_eq_false, not_false_eq_true, reduceIte, K_46, F_46_2, F_46_3, F_46_4, F_46_5, F_46_6, F_46_7, K_51, N_51, hS, lt, f, b, tt, nI_1, List.length_nil, List.length_cons, Nat.zero_le] <;> first | done | decide | omega | fail) | fail) only [B_14_0, e_aload_n_0, e_aload_n_1, P_0, e_call_1, psh_s, psh_n, Option.bind_some, e_iconst_0, e_istore_n_2, clr_i, clr_l, clr_a, clr_n, e_gotow, T_14_11, B_14_11, e_iload_n_2, G_1, e_ic_ge, e_sipush_256, e_call_2, G_4, e_i2s, e_sastore, G_5, G_0, G_511, e_bipush_12, G_3, e_call_3, e_iastore, e_iinc_2_1, e_goto, T_14_70, B_14_70, T_14_72, G_6, T_14_95, G_7, e_bipush_m3, R_14, kd_sI, ln_sI, hl_sI, gL_sI, gR_sI, kd_sL, ln_sL, hl_sL, gI_sL, gR_sL, kd_sR, ln_sR, hl_sR, gI_sR, gL_sR, kd_cpI, ln_cpI, hl_cpI, gL_cpI, gR_cpI, gI_cpI, gI_sI, gL_sL, gR_sR, St_sI, St_sL, St_cpI, Nat.reduceEqDiff, Nat.reduceAdd, eq_self, false_and, and_false, true_and, and_true, and_self, if_true, if_false, false_or, or_false, true_or, or_true, not_true_eq_false, not_false_eq_true, reduceIte, K_46, F_46_2, F_46_3, F_46_4, F_46_5, F_46_6, F_46_7, K_51, N_51, lt, f, b, tt, nI_1, List.length_nil, List.length_cons, Nat.zero_le]
/-- all that growing asks and gives -/
theorem s_Ca_grow {o sa : Nat} {L : LD} {Fs : Nat → List (Int32 × Int32)} {ss : Nat → Nat} {FA : List (Int32 × Int32)} {am : Bool} {h : MH} (ho : Oo o) (hB : SzB L) (hS : St h)
    (hT : gI h (o + 1) 1 = nI (dT L) ∧ ∀ t, t < dT L → gI h (o + 3) t = nI (dSize L t)) (hF : Fo2 o L Fs ss h) (hAm : Am2 o L FA sa am h)
    (hCl : (∀ c, c < dC L → gI h (o + 10) c = nI (dHome L c) ∧ dHome L c < 3 ∧ gI h (o + 12) c = dTold L c) ∧ ∀ c, c < dC L → gI h (o + 6) (dHome L c) = dHow L (dHome L c))
    (hN : dN L = dNs L) (hN2 : dN L ≤ 256) (hA : ∀ k, k < dN L → dApp L k = apv L Fs k (dC L)) {μ : Nat} (hμ : 7 < μ) :
    ∃ h', cal 14 [.ref 46, .ref o] μ h = some (none, h') ∧ St h' ∧ gR h' 46 0 = .ref o ∧ gI h' 46 1 = nI (dN L) ∧ (∀ s, s < 4 → gI h' 47 s = nI (strd L s 4)) ∧ (∀ k, k < dN L → gI h' 49 k = dApp L k ∧ gI h' 50 k = amv L FA am k) ∧ (∀ j, j < 12 → gI h' 51 j = ovb L j (dC L)) ∧ (∀ j, j < 4096 → gI h' 52 j = -3) ∧ Sm h h' (WGr o) := by
  have hr := Oo_rng ho
  let hA0 := sR h 46 0 (.ref o)
  have s0 : Sm h hA0 (WGr o) := (Sm.rf h _).sR (by simp [WGr, wr, wr1])
  have S0 : St hA0 := s0.St hS (stb_WGr ho)
  have g0 : GrO o L hA0 := ⟨S0, by show gR (sR h 46 0 (.ref o)) 46 0 = _; rw [gR_sR, if_pos ⟨rfl, rfl⟩], hT.1, hT.2⟩
  obtain ⟨h1, k1, g1, k2, k3, k4⟩ := s_Ca_measure ho hB g0 (μ := 7) (by omega)
  have I1 : ∀ {a j : Nat}, ¬ a = 46 → ¬ a = 47 → gI h1 a j = gI h a j := fun {a j} q1 q2 => (k4.I (by
    unfold wr wr1
    simp only [List.any_cons, List.any_nil, show (46 == a) = false by simpa using fun z : 46 = a => q1 z.symm, show (47 == a) = false by simpa using fun z : 47 = a => q2 z.symm, Bool.false_and, Bool.or_self])).trans rfl
  obtain ⟨h2, k5, g2, k6, k7⟩ := lp_grow1 (Fs := Fs) (ss := ss) (FA := FA) (sa := sa) (am := am) ho hB (by omega) (dNs L) 0 h1 (by omega) g1 (hF.eq (fun y j _ => I1 (by omega) (by omega))) (hAm.eq (fun y j _ => I1 (by omega) (by omega))) k2 k3 (fun j hj => absurd hj (by omega))
  have I2 : ∀ {a j : Nat}, ¬ a = 48 → ¬ a = 49 → ¬ a = 50 → ¬ a = o + 19 → gI h2 a j = gI h1 a j := fun {a j} q1 q2 q3 q4 => k7.I (by
    unfold wr wr1
    simp only [List.any_cons, List.any_nil, show (48 == a) = false by simpa using fun z : 48 = a => q1 z.symm, show (49 == a) = false by simpa using fun z : 49 = a => q2 z.symm, show (50 == a) = false by simpa using fun z : 50 = a => q3 z.symm, show (o + 19 == a) = false by simpa using fun z : o + 19 = a => q4 z.symm, Bool.false_and, Bool.or_self])
  have gc : GrC o L h2 := ⟨g2.1, g2.2.1, ⟨by rw [I2 (by omega) (by omega) (by omega) (by omega), I1 (by omega) (by omega)]; exact hF.1.1, hF.1.2⟩, fun c hc => by
    rw [I2 (by omega) (by omega) (by omega) (by omega), I1 (by omega) (by omega), I2 (by omega) (by omega) (by omega) (by omega), I1 (by omega) (by omega)]
    exact hCl.1 c hc, fun t ht => by
    rw [I2 (by omega) (by omega) (by omega) (by omega), I1 (by omega) (by omega)]
    exact hCl.2 t ht⟩
  have n2 : gI h2 46 1 = nI (dN L) := by rw [I2 (by omega) (by omega) (by omega) (by omega), hN]; exact k2
  obtain ⟨h3, k8, k9, k10⟩ := lp_grow2 ho hN2 12 0 h2 (by omega) gc n2 (fun k hk => by rw [hA k hk]; exact (k6 k (by omega)).1) (fun j hj => absurd hj (by omega))
  have S3 := (gc.sm51 ho k10).1
  have I3 : ∀ {a j : Nat}, ¬ a = 51 → gI h3 a j = gI h2 a j := fun {a j} q => k10.I (by
    unfold wr wr1
    simp only [List.any_cons, List.any_nil, show (51 == a) = false by simpa using fun z : 51 = a => q z.symm, Bool.false_and, Bool.or_self])
  have f := s_JA_fillS (h := h3) (b := 52) (n := 4096) (v := -3) (w := -3) (μ := 7) (K_52 S3) (N_52 S3) (by omega) (by omega) (by decide) (by omega)
  have hS4 : St (flS h3 52 4096 (-3)) := S3
  have I4 : ∀ {a j : Nat}, ¬ a = 52 → gI (flS h3 52 4096 (-3)) a j = gI h3 a j := fun q => by rw [gI_flS, if_neg (fun z => q z.1)]
  have sW : Sm h (flS h3 52 4096 (-3)) (WGr o) := by
    have a1 : Sm hA0 h1 (WGr o) := k4.mono (by unfold WGr; simp)
    have a2 : Sm h1 h2 (WGr o) := k7.mono (by unfold WGr; simp)
    have a3 : Sm h2 h3 (WGr o) := k10.mono (by unfold WGr; simp)
    have a4 : Sm h3 (flS h3 52 4096 (-3)) (WGr o) := ⟨rfl, fun a j q => ⟨by
      rw [gI_flS]
      by_cases c : a = 52
      · rw [c] at q
        rw [show wr (WGr o) 52 j = true by simp [WGr, wr, wr1]] at q
        cases q
      · rw [if_neg (fun z => c z.1)], rfl, rfl⟩⟩
    exact (((s0.trans a1).trans a2).trans a3).trans a4
  refine ⟨flS h3 52 4096 (-3), ?_, hS4, ?_, ?_, fun s hs => ?_, fun k hk => ?_, fun j hj => ?_, fun j hj => by rw [gI_flS, if_pos ⟨rfl, hj⟩], sW⟩
  · rw [C_14 46 _ μ h (K_46 hS) (by decide) hμ]
    have e1 : rn 14 7 B_14_0 [some (.ref 46), some (.ref o), none] [] h = rn 14 7 B_14_11 [some (.ref 46), some (.ref o), some (.int (nI 0))] [] h1 := by
      have k1 : cal 15 [.ref 46] 7 (sR h 46 0 (.ref o)) = some (none, h1) := k1
      conv => lhs; rw [B_14_0]
      simp (disch := first | assumption | exact b2i_01 _ | decide | omega | (simp only [kd_sI, ln_sI, hl_sI, gL_sI, gR_sI, kd_sL, ln_sL, hl_sL, gI_sL, gR_sL, kd_sR, ln_sR, hl_sR, gI_sR, gL_sR, kd_cpI, ln_cpI, hl_cpI, gL_cpI, gR_cpI, gI_cpI, gI_sI, gL_sL, gR_sR, St_sI, St_sL, St_cpI, Nat.reduceEqDiff, Nat.reduceAdd, eq_self, false_and, and_false, true_and, and_true, and_self, if_true, if_false, false_or, or_false, true_or, or_true, not_true_eq_false, not_false_eq_true, reduceIte, K_46, F_46_2, F_46_3, F_46_4, F_46_5, F_46_6, F_46_7, hS, k1, List.length_nil, List.length_cons, Nat.zero_le] <;> first | done | decide | omega | fail) | fail) only [e_aload_n_0, e_aload_n_1, P_0, e_call_1, psh_s, psh_n, Option.bind_some, e_iconst_0, e_istore_n_2, clr_i, clr_l, clr_a, clr_n, e_gotow, T_14_11, e_iload_n_2, G_1, e_ic_ge, e_sipush_256, e_call_2, G_4, e_i2s, e_sastore, G_5, G_0, G_511, e_bipush_12, G_3, e_call_3, e_iastore, e_iinc_2_1, e_goto, T_14_70, T_14_72, B_14_72, G_6, T_14_95, B_14_95, G_7, e_bipush_m3, R_14, kd_sI, ln_sI, hl_sI, gL_sI, gR_sI, kd_sL, ln_sL, hl_sL, gI_sL, gR_sL, kd_sR, ln_sR, hl_sR, gI_sR, gL_sR, kd_cpI, ln_cpI, hl_cpI, gL_cpI, gR_cpI, gI_cpI, gI_sI, gL_sL, gR_sR, St_sI, St_sL, St_cpI, Nat.reduceEqDiff, Nat.reduceAdd, eq_self, false_and, and_false, true_and, and_true, and_self, if_true, if_false, false_or, or_false, true_or, or_true, not_true_eq_false, not_false_eq_true, reduceIte, K_46, F_46_2, F_46_3, F_46_4, F_46_5, F_46_6, F_46_7, k1, List.length_nil, List.length_cons, Nat.zero_le]
      rfl
    have e2 : rn 14 7 B_14_70 [some (.ref 46), some (.ref o), some (.int (nI (dNs L)))] [] h2 = rn 14 7 B_14_72 [some (.ref 46), some (.ref o), some (.int (nI 0))] [] h2 := by
      conv => lhs; rw [B_14_70]
      simp (disch := first | assumption | exact b2i_01 _ | decide | omega | (simp only [kd_sI, ln_sI, hl_sI, gL_sI, gR_sI, kd_sL, ln_sL, hl_sL, gI_sL, gR_sL, kd_sR, ln_sR, hl_sR, gI_sR, gL_sR, kd_cpI, ln_cpI, hl_cpI, gL_cpI, gR_cpI, gI_cpI, gI_sI, gL_sL, gR_sR, St_sI, St_sL, St_cpI, Nat.reduceEqDiff, Nat.reduceAdd, eq_self, false_and, and_false, true_and, and_true, and_self, if_true, if_false, false_or, or_false, true_or, or_true, not_true_eq_false, not_false_eq_true, reduceIte, K_46, F_46_2, F_46_3, F_46_4, F_46_5, F_46_6, F_46_7, hS, List.length_nil, List.length_cons, Nat.zero_le] <;> first | done | decide | omega | fail) | fail) only [B_14_0, e_aload_n_0, e_aload_n_1, P_0, e_call_1, psh_s, psh_n, Option.bind_some, e_iconst_0, e_istore_n_2, clr_i, clr_l, clr_a, clr_n, e_gotow, T_14_11, e_iload_n_2, G_1, e_ic_ge, e_sipush_256, e_call_2, G_4, e_i2s, e_sastore, G_5, G_0, G_511, e_bipush_12, G_3, e_call_3, e_iastore, e_iinc_2_1, e_goto, T_14_70, T_14_72, G_6, T_14_95, B_14_95, G_7, e_bipush_m3, R_14, kd_sI, ln_sI, hl_sI, gL_sI, gR_sI, kd_sL, ln_sL, hl_sL, gI_sL, gR_sL, kd_sR, ln_sR, hl_sR, gI_sR, gL_sR, kd_cpI, ln_cpI, hl_cpI, gL_cpI, gR_cpI, gI_cpI, gI_sI, gL_sL, gR_sR, St_sI, St_sL, St_cpI, Nat.reduceEqDiff, Nat.reduceAdd, eq_self, false_and, and_false, true_and, and_true, and_self, if_true, if_false, false_or, or_false, true_or, or_true, not_true_eq_false, not_false_eq_true, reduceIte, K_46, F_46_2, F_46_3, F_46_4, F_46_5, F_46_6, F_46_7, List.length_nil, List.length_cons, Nat.zero_le]
      rfl
    rw [e1, k5, e2, k8, B_14_95]
    have hS := S3
    simp (disch := first | assumption | exact b2i_01 _ | decide | omega | (simp only [kd_sI, ln_sI, hl_sI, gL_sI, gR_sI, kd_sL, ln_sL, hl_sL, gI_sL, gR_sL, kd_sR, ln_sR, hl_sR, gI_sR, gL_sR, kd_cpI, ln_cpI, hl_cpI, gL_cpI, gR_cpI, gI_cpI, gI_sI, gL_sL, gR_sR, St_sI, St_sL, St_cpI, Nat.reduceEqDiff, Nat.reduceAdd, eq_self, false_and, and_false, true_and, and_true, and_self, if_true, if_false, false_or, or_false, true_or, or_true, not_true_eq_false, not_false_eq_true, reduceIte, K_46, F_46_2, F_46_3, F_46_4, F_46_5, F_46_6, F_46_7, hS, f, List.length_nil, List.length_cons, Nat.zero_le] <;> first | done | decide | omega | fail) | fail) only [B_14_0, e_aload_n_0, e_aload_n_1, P_0, e_call_1, psh_s, psh_n, Option.bind_some, e_iconst_0, e_istore_n_2, clr_i, clr_l, clr_a, clr_n, e_gotow, T_14_11, e_iload_n_2, G_1, e_ic_ge, e_sipush_256, e_call_2, G_4, e_i2s, e_sastore, G_5, G_0, G_511, e_bipush_12, G_3, e_call_3, e_iastore, e_iinc_2_1, e_goto, T_14_70, B_14_70, T_14_72, G_6, T_14_95, G_7, e_bipush_m3, R_14, kd_sI, ln_sI, hl_sI, gL_sI, gR_sI, kd_sL, ln_sL, hl_sL, gI_sL, gR_sL, kd_sR, ln_sR, hl_sR, gI_sR, gL_sR, kd_cpI, ln_cpI, hl_cpI, gL_cpI, gR_cpI, gI_cpI, gI_sI, gL_sL, gR_sR, St_sI, St_sL, St_cpI, Nat.reduceEqDiff, Nat.reduceAdd, eq_self, false_and, and_false, true_and, and_true, and_self, if_true, if_false, false_or, or_false, true_or, or_true, not_true_eq_false, not_false_eq_true, reduceIte, K_46, F_46_2, F_46_3, F_46_4, F_46_5, F_46_6, F_46_7, f, List.length_nil, List.length_cons, Nat.zero_le]
  · show gR h3 46 0 = _
    rw [k10.R rfl]
    exact gc.2.1
  · rw [I4 (by omega), I3 (by omega)]; exact n2
  · rw [I4 (by omega), I3 (by omega), I2 (by omega) (by omega) (by omega) (by omega)]; exact k3 s hs
  · rw [I4 (by omega), I3 (by omega), I4 (by omega), I3 (by omega), hA k hk]
    exact k6 k (by omega)
  · rw [I4 (by omega)]; exact k9 j hj
