/-! which clauses apply to a case -/
theorem evs_one {T : Nat} {tv : Int32 → Int32} : ∀ (F : List (Int32 × Int32)) (s : List Int32), WfS T F s.length → ∃ v, evs tv F s = [v]
  | [], s, h => by
    have h : s.length = 1 := h
    match s, h with
    | [v], _ => exact ⟨v, rfl⟩
  | q :: F, s, h => by
    show ∃ v, evs tv F (ev1 tv q s) = [v]
    unfold ev1
    have z10 : ¬ (1 : Int32) = 0 := by decide
    have z20 : ¬ (2 : Int32) = 0 := by decide
    have z21 : ¬ (2 : Int32) = 1 := by decide
    have z30 : ¬ (3 : Int32) = 0 := by decide
    have z31 : ¬ (3 : Int32) = 1 := by decide
    have z32 : ¬ (3 : Int32) = 2 := by decide
    rcases h with ⟨a1, a2, a3, a4⟩ | ⟨a1, a2, a3, a4⟩ | ⟨a1, a2, a4⟩ | ⟨a1, a2, a3, a4⟩
    · rw [if_pos a1]
      exact evs_one F _ a4
    · rw [if_neg (by rw [a1]; exact z10), if_pos a1]
      exact evs_one F _ a4
    · match s, a2, a4 with
      | y :: r, _, a4 =>
        simp only [a1, z20, z21, if_false, if_true]
        exact evs_one F _ a4
    · match s, a2, a4 with
      | y :: x :: r, _, a4 =>
        simp only [a1, z30, z31, z32, if_false]
        exact evs_one F _ (by simpa using a4)
def fv (L : LD) (Fs : Nat → List (Int32 × Int32)) (c k : Nat) : Int32 := (evs (tvl L k) (Fs c) []).headD 0
theorem fv_e {L : LD} {Fs : Nat → List (Int32 × Int32)} {c k : Nat} (h : WfS (dT L) (Fs c) 0) : evs (tvl L k) (Fs c) [] = [fv L Fs c k] := by
  obtain ⟨v, e⟩ := evs_one (tv := tvl L k) (Fs c) [] h
  unfold fv
  rw [e]
  rfl
def apv (L : LD) (Fs : Nat → List (Int32 × Int32)) (k : Nat) : Nat → Int32
  | 0 => 0
  | c + 1 => if fv L Fs c k = 0 then apv L Fs k c else apv L Fs k c ||| one c
theorem apv_n (L : LD) (Fs : Nat → List (Int32 × Int32)) (k : Nat) : ∀ c, c ≤ 12 → ∃ n, n < 2 ^ c ∧ apv L Fs k c = nI n
  | 0, _ => ⟨0, by decide, rfl⟩
  | c + 1, h => by
    obtain ⟨n, h1, h2⟩ := apv_n L Fs k c (by omega)
    have h3 : 2 ^ c < 2 ^ (c + 1) := Nat.pow_lt_pow_right (by omega) (by omega)
    unfold apv
    by_cases q : fv L Fs c k = 0
    · rw [if_pos q]; exact ⟨n, by omega, h2⟩
    · rw [if_neg q, h2]
      exact or_1 (by omega) (by omega) (by omega)
def Fo2 (o : Nat) (L : LD) (Fs : Nat → List (Int32 × Int32)) (ss : Nat → Nat) (h : MH) : Prop := (gI h (o + 8) 1 = nI (dC L) ∧ dC L ≤ 12) ∧ ∀ c, c < dC L → gI h (o + 17) c = nI (ss c) ∧ gI h (o + 18) c = nI (ss c + (Fs c).length) ∧ ss c + (Fs c).length ≤ 640 ∧ (∀ j st, (Fs c)[j]? = some st → gI h (o + 16) (ss c + j) = cdo st) ∧ WfS (dT L) (Fs c) 0
theorem Fo2.eq {o : Nat} {L : LD} {Fs : Nat → List (Int32 × Int32)} {ss : Nat → Nat} {h h' : MH} (f : Fo2 o L Fs ss h) (e : ∀ y j, (y = 8 ∨ y = 16 ∨ y = 17 ∨ y = 18) → gI h' (o + y) j = gI h (o + y) j) : Fo2 o L Fs ss h' := ⟨⟨by rw [e _ _ (by omega)]; exact f.1.1, f.1.2⟩, fun c hc => by
  obtain ⟨a1, a2, a3, a4, a5⟩ := f.2 c hc
  exact ⟨by rw [e _ _ (by omega)]; exact a1, by rw [e _ _ (by omega)]; exact a2, a3, fun j st hj => by rw [e _ _ (by omega)]; exact a4 j st hj, a5⟩⟩
theorem GrO.eq {o : Nat} {L : LD} {h h' : MH} (g : GrO o L h) (hS : St h') (e1 : gR h' 46 0 = gR h 46 0) (e : ∀ y j, (y = 1 ∨ y = 3) → gI h' (o + y) j = gI h (o + y) j) : GrO o L h' := ⟨hS, by rw [e1]; exact g.2.1, by rw [e _ _ (by omega)]; exact g.2.2.1, fun t ht => by rw [e _ _ (by omega)]; exact g.2.2.2 t ht⟩
theorem lp_clausesOfRow {o k : Nat} {L : LD} {Fs : Nat → List (Int32 × Int32)} {ss : Nat → Nat} (ho : Oo o) (hB : SzB L) : ∀ m c h, c + m = dC L → GrO o L h → Fo2 o L Fs ss h → (∀ t, t < dT L → gI h 48 t = nI (val L k t)) → ∃ h', rn 19 6 B_19_4 [some (.ref 46), some (.int (apv L Fs k c)), some (.int (nI c))] [] h = some (some (.int (apv L Fs k (dC L))), h') ∧ Sm h h' [(o + 19, none)] := by
  have hr := Oo_rng ho
  intro m
  induction m with
  | zero =>
    intro c h hc g f rw'
    obtain ⟨hS, g1, g2, g3⟩ := g
    have c1 := f.1.1
    have hC := f.1.2
    obtain rfl : c = dC L := by omega
    refine ⟨h, ?_, Sm.rf h _⟩
    rw [B_19_4]
    simp (disch := first | assumption | exact b2i_01 _ | decide | omega | (simp only [kd_sI, ln_sI, hl_sI, gL_sI, gR_sI, kd_sL, ln_sL, hl_sL, gI_sL, gR_sL, kd_sR, ln_sR, hl_sR, gI_sR, gL_sR, kd_cpI, ln_cpI, hl_cpI, gL_cpI, gR_cpI, gI_cpI, gI_sI, gL_sL, gR_sR, St_sI, St_sL, St_cpI, Nat.reduceEqDiff, Nat.reduceAdd, eq_self, false_and, and_false, true_and, and_true, and_self, if_true, if_false, false_or, or_false, true_or, or_true, not_true_eq_false, not_false_eq_true, reduceIte, K_46, F_46_2, F_46_3, F_46_4, F_46_5, F_46_6, F_46_7, KO_0, KO_1, KO_2, NO_2, KO_3, NO_3, KO_4, KO_5, NO_5, KO_6, NO_6, KO_7, NO_7, KO_8, KO_9, NO_9, KO_10, NO_10, KO_11, NO_11, KO_12, NO_12, KO_13, NO_13, KO_14, NO_14, KO_15, KO_16, NO_16, KO_17, NO_17, KO_18, NO_18, KO_19, NO_19, FO_0_0, FO_0_1, FO_0_2, FO_0_3, FO_0_4, FO_0_5, FO_0_6, FO_0_7, FO_0_8, FO_0_9, FO_0_10, FO_0_11, FO_1_0, FO_4_0, FO_8_0, FO_15_0, FO_15_2, FO_15_3, FO_15_4, Oo_2, Oo_p, hS, g1, ho, c1, (eq_true (by simp (disch := omega) only [nI_lit, nI_add, lt_nI, le_nI, eq_nI] <;> omega) : (nI (dC L) ≤ nI (dC L)) = True)] <;> first | done | decide | omega | fail) | fail) only [B_19_0, e_iconst_0, e_istore_n_1, clr_i, clr_l, clr_a, clr_n, e_istore_n_2, e_gotow, T_19_4, e_iload_n_2, e_aload_n_0, G_0, G_505, G_401, e_ic_ge, G_511, G_3, e_call_3, psh_s, psh_n, Option.bind_some, e_if_eq, e_iload_n_1, e_iconst_1, e_ishl, e_ior, T_19_42, B_19_42, e_iinc_2_1, e_goto, T_19_48, B_19_48, R_19, kd_sI, ln_sI, hl_sI, gL_sI, gR_sI, kd_sL, ln_sL, hl_sL, gI_sL, gR_sL, kd_sR, ln_sR, hl_sR, gI_sR, gL_sR, kd_cpI, ln_cpI, hl_cpI, gL_cpI, gR_cpI, gI_cpI, gI_sI, gL_sL, gR_sR, St_sI, St_sL, St_cpI, Nat.reduceEqDiff, Nat.reduceAdd, eq_self, false_and, and_false, true_and, and_true, and_self, if_true, if_false, false_or, or_false, true_or, or_true, not_true_eq_false, not_false_eq_true, reduceIte, K_46, F_46_2, F_46_3, F_46_4, F_46_5, F_46_6, F_46_7, KO_0, KO_1, KO_2, NO_2, KO_3, NO_3, KO_4, KO_5, NO_5, KO_6, NO_6, KO_7, NO_7, KO_8, KO_9, NO_9, KO_10, NO_10, KO_11, NO_11, KO_12, NO_12, KO_13, NO_13, KO_14, NO_14, KO_15, KO_16, NO_16, KO_17, NO_17, KO_18, NO_18, KO_19, NO_19, FO_0_0, FO_0_1, FO_0_2, FO_0_3, FO_0_4, FO_0_5, FO_0_6, FO_0_7, FO_0_8, FO_0_9, FO_0_10, FO_0_11, FO_1_0, FO_4_0, FO_8_0, FO_15_0, FO_15_2, FO_15_3, FO_15_4, Oo_2, Oo_p, g1, ho, c1, (eq_true (by simp (disch := omega) only [nI_lit, nI_add, lt_nI, le_nI, eq_nI] <;> omega) : (nI (dC L) ≤ nI (dC L)) = True)]
  | succ m ih =>
    intro c h hc g f rw'
    have g0 := g
    obtain ⟨hS, g1, g2, g3⟩ := g
    have c1 := f.1.1
    have hC := f.1.2
    obtain ⟨a1, a2, a3, a4, a5⟩ := f.2 c (by omega)
    obtain ⟨h1, k1, k2⟩ := s_Fo_valueOf (tv := tvl L k) (T := dT L) ho ⟨hS, ⟨a1, a2, a3, by omega⟩, a4, fun t ht => by
      rw [rw' t ht]
      unfold tvl
      rw [tc_nI (by have := hB.1; omega)], hB.1⟩ a5 (fv_e (k := k) a5) (μ := 6) (by omega)
    have hS1 := k2.St hS (stb_o19 ho)
    have I : ∀ {a j : Nat}, ¬ a = o + 19 → gI h1 a j = gI h a j := fun q => k2.I (w19_no q)
    have gg : GrO o L h1 := g0.eq hS1 (k2.R (w19_no (by omega))) (fun y j _ => I (by omega))
    obtain ⟨h2, m1, m2⟩ := ih (c + 1) h1 (by omega) gg (f.eq (fun y j _ => I (by omega))) (fun t ht => by rw [I (by omega)]; exact rw' t ht)
    refine ⟨h2, ?_, k2.trans m2⟩
    rw [← m1]
    have o1 : (1 : Int32) <<< (nI c &&& 31) = one c := rfl
    have lt : (nI (dC L) ≤ nI c) = False := (eq_false (by simp (disch := omega) only [nI_lit, nI_add, lt_nI, le_nI, eq_nI] <;> omega) : (nI (dC L) ≤ nI c) = False)
    conv => lhs; rw [B_19_4]
    by_cases q : fv L Fs c k = 0
    · rw [q] at k1
      rw [show apv L Fs k (c + 1) = apv L Fs k c from if_pos q]
      simp (disch := first | assumption | exact b2i_01 _ | decide | omega | (simp only [kd_sI, ln_sI, hl_sI, gL_sI, gR_sI, kd_sL, ln_sL, hl_sL, gI_sL, gR_sL, kd_sR, ln_sR, hl_sR, gI_sR, gL_sR, kd_cpI, ln_cpI, hl_cpI, gL_cpI, gR_cpI, gI_cpI, gI_sI, gL_sL, gR_sR, St_sI, St_sL, St_cpI, Nat.reduceEqDiff, Nat.reduceAdd, eq_self, false_and, and_false, true_and, and_true, and_self, if_true, if_false, false_or, or_false, true_or, or_true, not_true_eq_false, not_false_eq_true, reduceIte, K_46, F_46_2, F_46_3, F_46_4, F_46_5, F_46_6, F_46_7, KO_0, KO_1, KO_2, NO_2, KO_3, NO_3, KO_4, KO_5, NO_5, KO_6, NO_6, KO_7, NO_7, KO_8, KO_9, NO_9, KO_10, NO_10, KO_11, NO_11, KO_12, NO_12, KO_13, NO_13, KO_14, NO_14, KO_15, KO_16, NO_16, KO_17, NO_17, KO_18, NO_18, KO_19, NO_19, FO_0_0, FO_0_1, FO_0_2, FO_0_3, FO_0_4, FO_0_5, FO_0_6, FO_0_7, FO_0_8, FO_0_9, FO_0_10, FO_0_11, FO_1_0, FO_4_0, FO_8_0, FO_15_0, FO_15_2, FO_15_3, FO_15_4, Oo_2, Oo_p, hS, g1, ho, c1, lt, k1, nI_1, List.length_nil, List.length_cons, Nat.zero_le] <;> first | done | decide | omega | fail) | fail) only [B_19_0, e_iconst_0, e_istore_n_1, clr_i, clr_l, clr_a, clr_n, e_istore_n_2, e_gotow, T_19_4, e_iload_n_2, e_aload_n_0, G_0, G_505, G_401, e_ic_ge, G_511, G_3, e_call_3, psh_s, psh_n, Option.bind_some, e_if_eq, e_iload_n_1, e_iconst_1, e_ishl, e_ior, T_19_42, B_19_42, e_iinc_2_1, e_goto, T_19_48, B_19_48, R_19, kd_sI, ln_sI, hl_sI, gL_sI, gR_sI, kd_sL, ln_sL, hl_sL, gI_sL, gR_sL, kd_sR, ln_sR, hl_sR, gI_sR, gL_sR, kd_cpI, ln_cpI, hl_cpI, gL_cpI, gR_cpI, gI_cpI, gI_sI, gL_sL, gR_sR, St_sI, St_sL, St_cpI, Nat.reduceEqDiff, Nat.reduceAdd, eq_self, false_and, and_false, true_and, and_true, and_self, if_true, if_false, false_or, or_false, true_or, or_true, not_true_eq_false, not_false_eq_true, reduceIte, K_46, F_46_2, F_46_3, F_46_4, F_46_5, F_46_6, F_46_7, KO_0, KO_1, KO_2, NO_2, KO_3, NO_3, KO_4, KO_5, NO_5, KO_6, NO_6, KO_7, NO_7, KO_8, KO_9, NO_9, KO_10, NO_10, KO_11, NO_11, KO_12, NO_12, KO_13, NO_13, KO_14, NO_14, KO_15, KO_16, NO_16, KO_17, NO_17, KO_18, NO_18, KO_19, NO_19, FO_0_0, FO_0_1, FO_0_2, FO_0_3, FO_0_4, FO_0_5, FO_0_6, FO_0_7, FO_0_8, FO_0_9, FO_0_10, FO_0_11, FO_1_0, FO_4_0, FO_8_0, FO_15_0, FO_15_2, FO_15_3, FO_15_4, Oo_2, Oo_p, g1, ho, c1, lt, k1, nI_1, List.length_nil, List.length_cons, Nat.zero_le]
    · rw [show apv L Fs k (c + 1) = apv L Fs k c ||| one c from if_neg q]
      simp (disch := first | assumption | exact b2i_01 _ | decide | omega | (simp only [kd_sI, ln_sI, hl_sI, gL_sI, gR_sI, kd_sL, ln_sL, hl_sL, gI_sL, gR_sL, kd_sR, ln_sR, hl_sR, gI_sR, gL_sR, kd_cpI, ln_cpI, hl_cpI, gL_cpI, gR_cpI, gI_cpI, gI_sI, gL_sL, gR_sR, St_sI, St_sL, St_cpI, Nat.reduceEqDiff, Nat.reduceAdd, eq_self, false_and, and_false, true_and, and_true, and_self, if_true, if_false, false_or, or_false, true_or, or_true, not_true_eq_false, not_false_eq_true, reduceIte, K_46, F_46_2, F_46_3, F_46_4, F_46_5, F_46_6, F_46_7, KO_0, KO_1, KO_2, NO_2, KO_3, NO_3, KO_4, KO_5, NO_5, KO_6, NO_6, KO_7, NO_7, KO_8, KO_9, NO_9, KO_10, NO_10, KO_11, NO_11, KO_12, NO_12, KO_13, NO_13, KO_14, NO_14, KO_15, KO_16, NO_16, KO_17, NO_17, KO_18, NO_18, KO_19, NO_19, FO_0_0, FO_0_1, FO_0_2, FO_0_3, FO_0_4, FO_0_5, FO_0_6, FO_0_7, FO_0_8, FO_0_9, FO_0_10, FO_0_11, FO_1_0, FO_4_0, FO_8_0, FO_15_0, FO_15_2, FO_15_3, FO_15_4, Oo_2, Oo_p, hS, g1, ho, c1, lt, k1, q, o1, nI_1, List.length_nil, List.length_cons, Nat.zero_le] <;> first | done | decide | omega | fail) | fail) only [B_19_0, e_iconst_0, e_istore_n_1, clr_i, clr_l, clr_a, clr_n, e_istore_n_2, e_gotow, T_19_4, e_iload_n_2, e_aload_n_0, G_0, G_505, G_401, e_ic_ge, G_511, G_3, e_call_3, psh_s, psh_n, Option.bind_some, e_if_eq, e_iload_n_1, e_iconst_1, e_ishl, e_ior, T_19_42, B_19_42, e_iinc_2_1, e_goto, T_19_48, B_19_48, R_19, kd_sI, ln_sI, hl_sI, gL_sI, gR_sI, kd_sL, ln_sL, hl_sL, gI_sL, gR_sL, kd_sR, ln_sR, hl_sR, gI_sR, gL_sR, kd_cpI, ln_cpI, hl_cpI, gL_cpI, gR_cpI, gI_cpI, gI_sI, gL_sL, gR_sR, St_sI, St_sL, St_cpI, Nat.reduceEqDiff, Nat.reduceAdd, eq_self, false_and, and_false, true_and, and_true, and_self, if_true, if_false, false_or, or_false, true_or, or_true, not_true_eq_false, not_false_eq_true, reduceIte, K_46, F_46_2, F_46_3, F_46_4, F_46_5, F_46_6, F_46_7, KO_0, KO_1, KO_2, NO_2, KO_3, NO_3, KO_4, KO_5, NO_5, KO_6, NO_6, KO_7, NO_7, KO_8, KO_9, NO_9, KO_10, NO_10, KO_11, NO_11, KO_12, NO_12, KO_13, NO_13, KO_14, NO_14, KO_15, KO_16, NO_16, KO_17, NO_17, KO_18, NO_18, KO_19, NO_19, FO_0_0, FO_0_1, FO_0_2, FO_0_3, FO_0_4, FO_0_5, FO_0_6, FO_0_7, FO_0_8, FO_0_9, FO_0_10, FO_0_11, FO_1_0, FO_4_0, FO_8_0, FO_15_0, FO_15_2, FO_15_3, FO_15_4, Oo_2, Oo_p, g1, ho, c1, lt, k1, q, o1, nI_1, List.length_nil, List.length_cons, Nat.zero_le]
theorem s_Ca_clausesOfRow {o k : Nat} {L : LD} {Fs : Nat → List (Int32 × Int32)} {ss : Nat → Nat} {h : MH} (ho : Oo o) (hB : SzB L) (g : GrO o L h) (f : Fo2 o L Fs ss h) (rw' : ∀ t, t < dT L → gI h 48 t = nI (val L k t)) {μ : Nat} (hμ : 6 < μ) : ∃ h', cal 19 [.ref 46] μ h = some (some (.int (apv L Fs k (dC L))), h') ∧ Sm h h' [(o + 19, none)] := by
  obtain ⟨h1, k1, k2⟩ := lp_clausesOfRow (k := k) ho hB (dC L) 0 h (by omega) g f rw'
  refine ⟨h1, ?_, k2⟩
  have hS := g.1
  rw [C_19 46  μ _ (K_46 hS) (by decide) hμ]
  simp (disch := first | assumption | exact b2i_01 _ | decide | omega | (simp only [kd_sI, ln_sI, hl_sI, gL_sI, gR_sI, kd_sL, ln_sL, hl_sL, gI_sL, gR_sL, kd_sR, ln_sR, hl_sR, gI_sR, gL_sR, kd_cpI, ln_cpI, hl_cpI, gL_cpI, gR_cpI, gI_cpI, gI_sI, gL_sL, gR_sR, St_sI, St_sL, St_cpI, Nat.reduceEqDiff, Nat.reduceAdd, eq_self, false_and, and_false, true_and, and_true, and_self, if_true, if_false, false_or, or_false, true_or, or_true, not_true_eq_false, not_false_eq_true, reduceIte, K_46, F_46_2, F_46_3, F_46_4, F_46_5, F_46_6, F_46_7, hS] <;> first | done | decide | omega | fail) | fail) only [B_19_0, e_iconst_0, e_istore_n_1, clr_i, clr_l, clr_a, clr_n, e_istore_n_2, e_gotow, T_19_4, e_iload_n_2, e_aload_n_0, G_0, G_505, G_401, e_ic_ge, G_511, G_3, e_call_3, psh_s, psh_n, Option.bind_some, e_if_eq, e_iload_n_1, e_iconst_1, e_ishl, e_ior, T_19_42, B_19_42, e_iinc_2_1, e_goto, T_19_48, B_19_48, R_19, kd_sI, ln_sI, hl_sI, gL_sI, gR_sI, kd_sL, ln_sL, hl_sL, gI_sL, gR_sL, kd_sR, ln_sR, hl_sR, gI_sR, gL_sR, kd_cpI, ln_cpI, hl_cpI, gL_cpI, gR_cpI, gI_cpI, gI_sI, gL_sL, gR_sR, St_sI, St_sL, St_cpI, Nat.reduceEqDiff, Nat.reduceAdd, eq_self, false_and, and_false, true_and, and_true, and_self, if_true, if_false, false_or, or_false, true_or, or_true, not_true_eq_false, not_false_eq_true, reduceIte, K_46, F_46_2, F_46_3, F_46_4, F_46_5, F_46_6, F_46_7]
  exact k1
