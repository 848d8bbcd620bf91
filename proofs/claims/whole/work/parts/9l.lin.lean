/-! the class's lines: what they are made of -/
def fc (x : Txt) (i c : Nat) : Nat := if tkK (tks x i) = 1 then 1 else c
def BsC (x : Txt) (o i : Nat) (h : MH) : Prop := St h ∧ TpC x h ∧ TokC (tks x i) h ∧ (gI h 45 4 = 0 ∧ gI h 45 5 = -1 ∧ gR h 45 1 = .ref o) ∧ ∀ j, j < 20 → gL h 1 j = rsv.getD j 0
def WR3 : WL := [(45, some 4), (45, some 5), (43, some 2)]
/-- what is written by steps and refusals -/
def WS : WL := [(43, some 2), (43, some 3), (43, some 4), (43, some 5), (43, some 6), (45, some 4), (45, some 5)]
theorem W43_S {h h' : MH} (s : Sm h h' W43) : Sm h h' WS := s.mono (by decide)
theorem WR3_S {h h' : MH} (s : Sm h h' [(45, some 4), (45, some 5), (43, some 2)]) : Sm h h' WS := s.mono (by decide)
theorem BsC.step {x : Txt} {o i : Nat} {h : MH} (hG : BsC x o i h) {μ : Nat} (hμ : 5 < μ) : ∃ h', cal 44 [.ref 43] μ h = some (none, h') ∧ BsC x o (i + 1) h' ∧ Sm h h' WS := by
  obtain ⟨g1, g2, g3, ⟨g4, g5, g6⟩, g7⟩ := hG
  have hk := tks_5 g2.1 i
  obtain ⟨h', k1, k2, k3⟩ := s_Ta_step g1 g2 (tks_e g2.1 i) g3.2.2.1 (by
    rw [g3.1]
    intro z
    have := (eq_nI (a := tkK (tks x i)) (b := 5) (by omega) (by omega)).mp z
    omega) hμ
  exact ⟨h', k1, ⟨k3.St g1 stb_43, g2.sm k3, k2, ⟨by rw [k3.I rfl]; exact g4, by rw [k3.I rfl]; exact g5, by rw [k3.R rfl]; exact g6⟩, fun j hj => by rw [k3.L rfl]; exact g7 j hj⟩, W43_S k3⟩
theorem BsC.refuse {x : Txt} {o i : Nat} {h : MH} (hG : BsC x o i h) {c : Nat} (hc : 0 < c) (hc6 : c ≤ 6) {μ : Nat} (hμ : 3 < μ) : ∃ h', cal 57 [.ref 45, .int (nI c)] μ h = some (none, h') ∧ BC o (fc x i c) (tkS (tks x i)) h' ∧ Sm h h' WS := by
  obtain ⟨g1, g2, g3, ⟨g4, g5, g6⟩, g7⟩ := hG
  obtain ⟨h', k1, k2, k3⟩ := s_Re_refuse g1 g3 (tks_5 g2.1 i) g4 g6 hc hc6 hμ
  exact ⟨h', k1, k2, WR3_S k3⟩
theorem NmC.S {h h' : MH} {M : List Int64} {a m : Nat} (hN : NmC a m M h) (s : Sm h h' WS) (ha : ¬ a = 43 ∧ ¬ a = 45 ∧ ¬ a = 42 ∧ ¬ a = 44) : NmC a m M h' := by
  have w : ∀ y j, ¬ y = 43 → ¬ y = 45 → wr WS y j = false := fun y j h1 h2 => by
    unfold WS wr wr1
    simp only [List.any_cons, List.any_nil, show (43 == y) = false by simpa using fun z : 43 = y => h1 z.symm, show (45 == y) = false by simpa using fun z : 45 = y => h2 z.symm, Bool.false_and, Bool.or_self]
  exact hN.eq s.1 (s.R (w _ _ ha.1 ha.2.1)) (s.I (w _ _ ha.1 ha.2.1)) (fun j => s.L (w _ _ (by omega) (by omega)))
theorem c_newName {x : Txt} {o i : Nat} {h : MH} (hG : BsC x o i h) {N : List Int64} {a m : Nat} (hN : NmC a m N h) (ha : ¬ a = 43 ∧ ¬ a = 45 ∧ ¬ a = 42 ∧ ¬ a = 44) {μ : Nat} (hμ : 6 < μ) :
    (nam (tks x i) = true → ¬ fnd N (tkW (tks x i)) < N.length → ∃ h', cal 58 [.ref 45, .ref a] μ h = some (some (.long (tkW (tks x i))), h') ∧ BsC x o (i + 1) h' ∧ Sm h h' WS) ∧
    (nam (tks x i) = false → ∃ h' v, cal 58 [.ref 45, .ref a] μ h = some (some (.long v), h') ∧ BC o (fc x i 2) (tkS (tks x i)) h' ∧ Sm h h' WS) ∧
    (nam (tks x i) = true → fnd N (tkW (tks x i)) < N.length → ∃ h' v, cal 58 [.ref 45, .ref a] μ h = some (some (.long v), h') ∧ BC o (fc x i 3) (tkS (tks x i)) h' ∧ Sm h h' WS) := by
  have e10 : ((1 : Int32) = 0) = False := by simp
  have hG0 := hG
  obtain ⟨hS, g2, g3, ⟨g4, g5, g6⟩, g7⟩ := hG
  have w := s_Re_isName hS g7 g3 (tks_5 g2.1 i) (μ := 6) (by omega)
  have hw : nam (tks x i) = true → gL h 43 5 = tkW (tks x i) := fun c => g3.2.2.2.2 (by
    unfold nam at c
    simp only [Bool.and_eq_true, beq_iff_eq] at c
    exact c.1)
  refine ⟨fun c d => ?_, fun c => ?_, fun c d => ?_⟩
  · rw [c, b2i_t] at w
    have s0 := s_Na_numberOf (tkW (tks x i)) hN (μ := 6) (by omega)
    unfold fnI at s0
    rw [if_neg d] at s0
    obtain ⟨h1, k1, G1, m1⟩ := hG0.step (μ := 6) (by omega)
    refine ⟨h1, ?_, G1, m1⟩
    have hw := hw c
    rw [C_58 45 _ μ _ (K_45 hS) (by decide) hμ]
    simp (disch := first | assumption | exact b2i_01 _ | decide | omega | (simp only [kd_sI, ln_sI, hl_sI, gL_sI, gR_sI, kd_sL, ln_sL, hl_sL, gI_sL, gR_sL, kd_sR, ln_sR, hl_sR, gI_sR, gL_sR, kd_cpI, ln_cpI, hl_cpI, gL_cpI, gR_cpI, gI_cpI, gI_sI, gL_sL, gR_sR, St_sI, St_sL, St_cpI, Nat.reduceEqDiff, Nat.reduceAdd, eq_self, false_and, and_false, true_and, and_true, and_self, if_true, if_false, false_or, or_false, true_or, or_true, not_true_eq_false, not_false_eq_true, reduceIte, K_45, F_45_0, K_43, F_43_0, hS, hw, w, e10, s0, k1, List.length_nil, List.length_cons, Nat.zero_le] <;> first | done | decide | omega | fail) | fail) only [B_58_0, e_aload_n_0, G_600, G_905, e_lstore_n_2, clr_i, clr_l, clr_a, clr_n, e_call_1, psh_s, psh_n, Option.bind_some, e_if_ne, e_iconst_2, e_call_2, e_goto, T_58_23, B_58_23, e_aload_n_1, e_lload_n_2, e_iconst_m1, e_ic_eq, e_iconst_3, e_gotow, T_58_37, B_58_37, R_58, kd_sI, ln_sI, hl_sI, gL_sI, gR_sI, kd_sL, ln_sL, hl_sL, gI_sL, gR_sL, kd_sR, ln_sR, hl_sR, gI_sR, gL_sR, kd_cpI, ln_cpI, hl_cpI, gL_cpI, gR_cpI, gI_cpI, gI_sI, gL_sL, gR_sR, St_sI, St_sL, St_cpI, Nat.reduceEqDiff, Nat.reduceAdd, eq_self, false_and, and_false, true_and, and_true, and_self, if_true, if_false, false_or, or_false, true_or, or_true, not_true_eq_false, not_false_eq_true, reduceIte, K_45, F_45_0, K_43, F_43_0, hw, w, e10, s0, k1, List.length_nil, List.length_cons, Nat.zero_le]
  · rw [c, b2i_f] at w
    obtain ⟨h1, k1, B1, m1⟩ := hG0.refuse (c := 2) (by decide) (by decide) (μ := 6) (by omega)
    have k1 : cal 57 [.ref 45, .int 2] 6 h = some (none, h1) := k1
    have hS1 := B1.1
    have s4 := s_Ta_stop hS1 B1.2.1.2.2.1 (μ := 6) (by omega)
    refine ⟨h1, gL h 43 5, ?_, B1, m1⟩
    rw [C_58 45 _ μ _ (K_45 hS) (by decide) hμ]
    simp (disch := first | assumption | exact b2i_01 _ | decide | omega | (simp only [kd_sI, ln_sI, hl_sI, gL_sI, gR_sI, kd_sL, ln_sL, hl_sL, gI_sL, gR_sL, kd_sR, ln_sR, hl_sR, gI_sR, gL_sR, kd_cpI, ln_cpI, hl_cpI, gL_cpI, gR_cpI, gI_cpI, gI_sI, gL_sL, gR_sR, St_sI, St_sL, St_cpI, Nat.reduceEqDiff, Nat.reduceAdd, eq_self, false_and, and_false, true_and, and_true, and_self, if_true, if_false, false_or, or_false, true_or, or_true, not_true_eq_false, not_false_eq_true, reduceIte, K_45, F_45_0, K_43, F_43_0, hS, w, k1, hS1, s4, List.length_nil, List.length_cons, Nat.zero_le] <;> first | done | decide | omega | fail) | fail) only [B_58_0, e_aload_n_0, G_600, G_905, e_lstore_n_2, clr_i, clr_l, clr_a, clr_n, e_call_1, psh_s, psh_n, Option.bind_some, e_if_ne, e_iconst_2, e_call_2, e_goto, T_58_23, B_58_23, e_aload_n_1, e_lload_n_2, e_iconst_m1, e_ic_eq, e_iconst_3, e_gotow, T_58_37, B_58_37, R_58, kd_sI, ln_sI, hl_sI, gL_sI, gR_sI, kd_sL, ln_sL, hl_sL, gI_sL, gR_sL, kd_sR, ln_sR, hl_sR, gI_sR, gL_sR, kd_cpI, ln_cpI, hl_cpI, gL_cpI, gR_cpI, gI_cpI, gI_sI, gL_sL, gR_sR, St_sI, St_sL, St_cpI, Nat.reduceEqDiff, Nat.reduceAdd, eq_self, false_and, and_false, true_and, and_true, and_self, if_true, if_false, false_or, or_false, true_or, or_true, not_true_eq_false, not_false_eq_true, reduceIte, K_45, F_45_0, K_43, F_43_0, w, k1, hS1, s4, List.length_nil, List.length_cons, Nat.zero_le]
  · rw [c, b2i_t] at w
    have s0 := s_Na_numberOf (tkW (tks x i)) hN (μ := 6) (by omega)
    unfold fnI at s0
    rw [if_pos d] at s0
    have hM := hN.2.1
    have hM2 := hN.1.2.2.2.2.2
    have n1 : ¬ nI (fnd N (tkW (tks x i))) = -1 := nI_m1 (by omega)
    obtain ⟨h1, k1, B1, m1⟩ := hG0.refuse (c := 3) (by decide) (by decide) (μ := 6) (by omega)
    have k1 : cal 57 [.ref 45, .int 3] 6 h = some (none, h1) := k1
    have hS1 := B1.1
    have s4 := s_Ta_stop hS1 B1.2.1.2.2.1 (μ := 6) (by omega)
    refine ⟨h1, tkW (tks x i), ?_, B1, m1⟩
    have hw := hw c
    rw [C_58 45 _ μ _ (K_45 hS) (by decide) hμ]
    simp (disch := first | assumption | exact b2i_01 _ | decide | omega | (simp only [kd_sI, ln_sI, hl_sI, gL_sI, gR_sI, kd_sL, ln_sL, hl_sL, gI_sL, gR_sL, kd_sR, ln_sR, hl_sR, gI_sR, gL_sR, kd_cpI, ln_cpI, hl_cpI, gL_cpI, gR_cpI, gI_cpI, gI_sI, gL_sL, gR_sR, St_sI, St_sL, St_cpI, Nat.reduceEqDiff, Nat.reduceAdd, eq_self, false_and, and_false, true_and, and_true, and_self, if_true, if_false, false_or, or_false, true_or, or_true, not_true_eq_false, not_false_eq_true, reduceIte, K_45, F_45_0, K_43, F_43_0, hS, hw, w, e10, s0, n1, k1, hS1, s4, List.length_nil, List.length_cons, Nat.zero_le] <;> first | done | decide | omega | fail) | fail) only [B_58_0, e_aload_n_0, G_600, G_905, e_lstore_n_2, clr_i, clr_l, clr_a, clr_n, e_call_1, psh_s, psh_n, Option.bind_some, e_if_ne, e_iconst_2, e_call_2, e_goto, T_58_23, B_58_23, e_aload_n_1, e_lload_n_2, e_iconst_m1, e_ic_eq, e_iconst_3, e_gotow, T_58_37, B_58_37, R_58, kd_sI, ln_sI, hl_sI, gL_sI, gR_sI, kd_sL, ln_sL, hl_sL, gI_sL, gR_sL, kd_sR, ln_sR, hl_sR, gI_sR, gL_sR, kd_cpI, ln_cpI, hl_cpI, gL_cpI, gR_cpI, gI_cpI, gI_sI, gL_sL, gR_sR, St_sI, St_sL, St_cpI, Nat.reduceEqDiff, Nat.reduceAdd, eq_self, false_and, and_false, true_and, and_true, and_self, if_true, if_false, false_or, or_false, true_or, or_true, not_true_eq_false, not_false_eq_true, reduceIte, K_45, F_45_0, K_43, F_43_0, hw, w, e10, s0, n1, k1, hS1, s4, List.length_nil, List.length_cons, Nat.zero_le]
theorem c_newNameB {o c p a : Nat} {h : MH} (hB : BC o c p h) {μ : Nat} (hμ : 6 < μ) : ∃ v, cal 58 [.ref 45, .ref a] μ h = some (some (.long v), h) := by
  have hS := hB.1
  have w := s_Re_isNameB hS hB.2.1.2.2.1 (μ := 6) (by omega)
  have s3 := s_Re_refuseB hS hB.nz 2 (μ := 6) (by omega)
  have s4 := s_Ta_stop hS hB.2.1.2.2.1 (μ := 6) (by omega)
  refine ⟨gL h 43 5, ?_⟩
  rw [C_58 45 _ μ _ (K_45 hS) (by decide) hμ]
  simp (disch := first | assumption | exact b2i_01 _ | decide | omega | (simp only [kd_sI, ln_sI, hl_sI, gL_sI, gR_sI, kd_sL, ln_sL, hl_sL, gI_sL, gR_sL, kd_sR, ln_sR, hl_sR, gI_sR, gL_sR, kd_cpI, ln_cpI, hl_cpI, gL_cpI, gR_cpI, gI_cpI, gI_sI, gL_sL, gR_sR, St_sI, St_sL, St_cpI, Nat.reduceEqDiff, Nat.reduceAdd, eq_self, false_and, and_false, true_and, and_true, and_self, if_true, if_false, false_or, or_false, true_or, or_true, not_true_eq_false, not_false_eq_true, reduceIte, K_45, F_45_0, K_43, F_43_0, hS, w, s3, s4, List.length_nil, List.length_cons, Nat.zero_le] <;> first | done | decide | omega | fail) | fail) only [B_58_0, e_aload_n_0, G_600, G_905, e_lstore_n_2, clr_i, clr_l, clr_a, clr_n, e_call_1, psh_s, psh_n, Option.bind_some, e_if_ne, e_iconst_2, e_call_2, e_goto, T_58_23, B_58_23, e_aload_n_1, e_lload_n_2, e_iconst_m1, e_ic_eq, e_iconst_3, e_gotow, T_58_37, B_58_37, R_58, kd_sI, ln_sI, hl_sI, gL_sI, gR_sI, kd_sL, ln_sL, hl_sL, gI_sL, gR_sL, kd_sR, ln_sR, hl_sR, gI_sR, gL_sR, kd_cpI, ln_cpI, hl_cpI, gL_cpI, gR_cpI, gI_cpI, gI_sI, gL_sL, gR_sR, St_sI, St_sL, St_cpI, Nat.reduceEqDiff, Nat.reduceAdd, eq_self, false_and, and_false, true_and, and_true, and_self, if_true, if_false, false_or, or_false, true_or, or_true, not_true_eq_false, not_false_eq_true, reduceIte, K_45, F_45_0, K_43, F_43_0, w, s3, s4, List.length_nil, List.length_cons, Nat.zero_le]
theorem c_number {x : Txt} {o i : Nat} {h : MH} (hG : BsC x o i h) {a b : Nat} (hb : b ≤ 999) (hab : a ≤ b) {μ : Nat} (hμ : 6 < μ) :
    (tkK (tks x i) = 3 → a ≤ tkV (tks x i) ∧ tkV (tks x i) ≤ b → ∃ h', cal 61 [.ref 45, .int (nI a), .int (nI b)] μ h = some (some (.int (nI (tkV (tks x i)))), h') ∧ BsC x o (i + 1) h' ∧ Sm h h' WS) ∧
    (¬ tkK (tks x i) = 3 → ∃ h' v, cal 61 [.ref 45, .int (nI a), .int (nI b)] μ h = some (some (.int v), h') ∧ BC o (fc x i 2) (tkS (tks x i)) h' ∧ Sm h h' WS) ∧
    (tkK (tks x i) = 3 → ¬ (a ≤ tkV (tks x i) ∧ tkV (tks x i) ≤ b) → ∃ h' v, cal 61 [.ref 45, .int (nI a), .int (nI b)] μ h = some (some (.int v), h') ∧ BC o (fc x i 4) (tkS (tks x i)) h' ∧ Sm h h' WS) := by
  have hG0 := hG
  obtain ⟨hS, g2, g3, ⟨g4, g5, g6⟩, g7⟩ := hG
  have h99 : tkK (tks x i) = 3 → tkV (tks x i) ≤ 9999 := fun z => by
    obtain ⟨p, hp, e⟩ := tks_at x g2.1 i
    rw [e] at z ⊢
    exact tkn_num g2.1 hp z
  have k3 : tkK (tks x i) = 3 → gI h 43 2 = 3 := fun z => by rw [g3.1, z]; rfl
  refine ⟨fun c d => ?_, fun c => ?_, fun c d => ?_⟩
  · have hv := g3.2.2.2.1 (Or.inl c)
    have k3 := k3 c
    have h99 := h99 c
    obtain ⟨h1, k1, G1, m1⟩ := hG0.step (μ := 6) (by omega)
    refine ⟨h1, ?_, G1, m1⟩
    rw [C_61 45 _ _ μ _ (K_45 hS) (by decide) hμ]
    simp (disch := first | assumption | exact b2i_01 _ | decide | omega | (simp only [kd_sI, ln_sI, hl_sI, gL_sI, gR_sI, kd_sL, ln_sL, hl_sL, gI_sL, gR_sL, kd_sR, ln_sR, hl_sR, gI_sR, gL_sR, kd_cpI, ln_cpI, hl_cpI, gL_cpI, gR_cpI, gI_cpI, gI_sI, gL_sL, gR_sR, St_sI, St_sL, St_cpI, Nat.reduceEqDiff, Nat.reduceAdd, eq_self, false_and, and_false, true_and, and_true, and_self, if_true, if_false, false_or, or_false, true_or, or_true, not_true_eq_false, not_false_eq_true, reduceIte, K_45, F_45_0, K_43, F_43_0, hS, hv, k3, (eq_false (by simp (disch := omega) only [nI_lit, nI_add, lt_nI, le_nI, eq_nI] <;> omega) : (nI (tkV (tks x i)) < nI a) = False), (eq_true (by simp (disch := omega) only [nI_lit, nI_add, lt_nI, le_nI, eq_nI] <;> omega) : (nI (tkV (tks x i)) ≤ nI b) = True), k1, List.length_nil, List.length_cons, Nat.zero_le] <;> first | done | decide | omega | fail) | fail) only [B_61_0, e_aload_n_0, G_600, G_904, e_istore_n_3, clr_i, clr_l, clr_a, clr_n, G_902, e_iconst_3, e_ic_eq, e_iconst_2, e_call_2, psh_s, psh_n, Option.bind_some, e_goto, T_61_27, B_61_27, e_iload_n_3, e_iload_n_1, e_ic_lt, e_iload_n_2, e_ic_le, e_gotow, T_61_37, B_61_37, e_iconst_4, T_61_42, B_61_42, e_call_1, R_61, kd_sI, ln_sI, hl_sI, gL_sI, gR_sI, kd_sL, ln_sL, hl_sL, gI_sL, gR_sL, kd_sR, ln_sR, hl_sR, gI_sR, gL_sR, kd_cpI, ln_cpI, hl_cpI, gL_cpI, gR_cpI, gI_cpI, gI_sI, gL_sL, gR_sR, St_sI, St_sL, St_cpI, Nat.reduceEqDiff, Nat.reduceAdd, eq_self, false_and, and_false, true_and, and_true, and_self, if_true, if_false, false_or, or_false, true_or, or_true, not_true_eq_false, not_false_eq_true, reduceIte, K_45, F_45_0, K_43, F_43_0, hv, k3, (eq_false (by simp (disch := omega) only [nI_lit, nI_add, lt_nI, le_nI, eq_nI] <;> omega) : (nI (tkV (tks x i)) < nI a) = False), (eq_true (by simp (disch := omega) only [nI_lit, nI_add, lt_nI, le_nI, eq_nI] <;> omega) : (nI (tkV (tks x i)) ≤ nI b) = True), k1, List.length_nil, List.length_cons, Nat.zero_le]
  · have k3 : ¬ nI (tkK (tks x i)) = 3 := fun z => c ((tkK_nI (tks_5 g2.1 i) 3 (by omega)).mp z)
    have k2 := g3.1
    obtain ⟨h1, k1, B1, m1⟩ := hG0.refuse (c := 2) (by decide) (by decide) (μ := 6) (by omega)
    have k1 : cal 57 [.ref 45, .int 2] 6 h = some (none, h1) := k1
    have hS1 := B1.1
    have s4 := s_Ta_stop hS1 B1.2.1.2.2.1 (μ := 6) (by omega)
    refine ⟨h1, gI h 43 4, ?_, B1, m1⟩
    rw [C_61 45 _ _ μ _ (K_45 hS) (by decide) hμ]
    simp (disch := first | assumption | exact b2i_01 _ | decide | omega | (simp only [kd_sI, ln_sI, hl_sI, gL_sI, gR_sI, kd_sL, ln_sL, hl_sL, gI_sL, gR_sL, kd_sR, ln_sR, hl_sR, gI_sR, gL_sR, kd_cpI, ln_cpI, hl_cpI, gL_cpI, gR_cpI, gI_cpI, gI_sI, gL_sL, gR_sR, St_sI, St_sL, St_cpI, Nat.reduceEqDiff, Nat.reduceAdd, eq_self, false_and, and_false, true_and, and_true, and_self, if_true, if_false, false_or, or_false, true_or, or_true, not_true_eq_false, not_false_eq_true, reduceIte, K_45, F_45_0, K_43, F_43_0, hS, k2, k3, k1, hS1, s4, List.length_nil, List.length_cons, Nat.zero_le] <;> first | done | decide | omega | fail) | fail) only [B_61_0, e_aload_n_0, G_600, G_904, e_istore_n_3, clr_i, clr_l, clr_a, clr_n, G_902, e_iconst_3, e_ic_eq, e_iconst_2, e_call_2, psh_s, psh_n, Option.bind_some, e_goto, T_61_27, B_61_27, e_iload_n_3, e_iload_n_1, e_ic_lt, e_iload_n_2, e_ic_le, e_gotow, T_61_37, B_61_37, e_iconst_4, T_61_42, B_61_42, e_call_1, R_61, kd_sI, ln_sI, hl_sI, gL_sI, gR_sI, kd_sL, ln_sL, hl_sL, gI_sL, gR_sL, kd_sR, ln_sR, hl_sR, gI_sR, gL_sR, kd_cpI, ln_cpI, hl_cpI, gL_cpI, gR_cpI, gI_cpI, gI_sI, gL_sL, gR_sR, St_sI, St_sL, St_cpI, Nat.reduceEqDiff, Nat.reduceAdd, eq_self, false_and, and_false, true_and, and_true, and_self, if_true, if_false, false_or, or_false, true_or, or_true, not_true_eq_false, not_false_eq_true, reduceIte, K_45, F_45_0, K_43, F_43_0, k2, k3, k1, hS1, s4, List.length_nil, List.length_cons, Nat.zero_le]
  · have hv := g3.2.2.2.1 (Or.inl c)
    have k3 := k3 c
    have h99 := h99 c
    obtain ⟨h1, k1, B1, m1⟩ := hG0.refuse (c := 4) (by decide) (by decide) (μ := 6) (by omega)
    have k1 : cal 57 [.ref 45, .int 4] 6 h = some (none, h1) := k1
    have hS1 := B1.1
    have s4 := s_Ta_stop hS1 B1.2.1.2.2.1 (μ := 6) (by omega)
    refine ⟨h1, nI (tkV (tks x i)), ?_, B1, m1⟩
    rw [C_61 45 _ _ μ _ (K_45 hS) (by decide) hμ]
    by_cases e : tkV (tks x i) < a
    · simp (disch := first | assumption | exact b2i_01 _ | decide | omega | (simp only [kd_sI, ln_sI, hl_sI, gL_sI, gR_sI, kd_sL, ln_sL, hl_sL, gI_sL, gR_sL, kd_sR, ln_sR, hl_sR, gI_sR, gL_sR, kd_cpI, ln_cpI, hl_cpI, gL_cpI, gR_cpI, gI_cpI, gI_sI, gL_sL, gR_sR, St_sI, St_sL, St_cpI, Nat.reduceEqDiff, Nat.reduceAdd, eq_self, false_and, and_false, true_and, and_true, and_self, if_true, if_false, false_or, or_false, true_or, or_true, not_true_eq_false, not_false_eq_true, reduceIte, K_45, F_45_0, K_43, F_43_0, hS, hv, k3, (eq_true (by simp (disch := omega) only [nI_lit, nI_add, lt_nI, le_nI, eq_nI] <;> omega) : (nI (tkV (tks x i)) < nI a) = True), k1, hS1, s4, List.length_nil, List.length_cons, Nat.zero_le] <;> first | done | decide | omega | fail) | fail) only [B_61_0, e_aload_n_0, G_600, G_904, e_istore_n_3, clr_i, clr_l, clr_a, clr_n, G_902, e_iconst_3, e_ic_eq, e_iconst_2, e_call_2, psh_s, psh_n, Option.bind_some, e_goto, T_61_27, B_61_27, e_iload_n_3, e_iload_n_1, e_ic_lt, e_iload_n_2, e_ic_le, e_gotow, T_61_37, B_61_37, e_iconst_4, T_61_42, B_61_42, e_call_1, R_61, kd_sI, ln_sI, hl_sI, gL_sI, gR_sI, kd_sL, ln_sL, hl_sL, gI_sL, gR_sL, kd_sR, ln_sR, hl_sR, gI_sR, gL_sR, kd_cpI, ln_cpI, hl_cpI, gL_cpI, gR_cpI, gI_cpI, gI_sI, gL_sL, gR_sR, St_sI, St_sL, St_cpI, Nat.reduceEqDiff, Nat.reduceAdd, eq_self, false_and, and_false, true_and, and_true, and_self, if_true, if_false, false_or, or_false, true_or, or_true, not_true_eq_false, not_false_eq_true, reduceIte, K_45, F_45_0, K_43, F_43_0, hv, k3, (eq_true (by simp (disch := omega) only [nI_lit, nI_add, lt_nI, le_nI, eq_nI] <;> omega) : (nI (tkV (tks x i)) < nI a) = True), k1, hS1, s4, List.length_nil, List.length_cons, Nat.zero_le]
    · simp (disch := first | assumption | exact b2i_01 _ | decide | omega | (simp only [kd_sI, ln_sI, hl_sI, gL_sI, gR_sI, kd_sL, ln_sL, hl_sL, gI_sL, gR_sL, kd_sR, ln_sR, hl_sR, gI_sR, gL_sR, kd_cpI, ln_cpI, hl_cpI, gL_cpI, gR_cpI, gI_cpI, gI_sI, gL_sL, gR_sR, St_sI, St_sL, St_cpI, Nat.reduceEqDiff, Nat.reduceAdd, eq_self, false_and, and_false, true_and, and_true, and_self, if_true, if_false, false_or, or_false, true_or, or_true, not_true_eq_false, not_false_eq_true, reduceIte, K_45, F_45_0, K_43, F_43_0, hS, hv, k3, (eq_false (by simp (disch := omega) only [nI_lit, nI_add, lt_nI, le_nI, eq_nI] <;> omega) : (nI (tkV (tks x i)) < nI a) = False), (eq_false (by simp (disch := omega) only [nI_lit, nI_add, lt_nI, le_nI, eq_nI] <;> omega) : (nI (tkV (tks x i)) ≤ nI b) = False), k1, hS1, s4, List.length_nil, List.length_cons, Nat.zero_le] <;> first | done | decide | omega | fail) | fail) only [B_61_0, e_aload_n_0, G_600, G_904, e_istore_n_3, clr_i, clr_l, clr_a, clr_n, G_902, e_iconst_3, e_ic_eq, e_iconst_2, e_call_2, psh_s, psh_n, Option.bind_some, e_goto, T_61_27, B_61_27, e_iload_n_3, e_iload_n_1, e_ic_lt, e_iload_n_2, e_ic_le, e_gotow, T_61_37, B_61_37, e_iconst_4, T_61_42, B_61_42, e_call_1, R_61, kd_sI, ln_sI, hl_sI, gL_sI, gR_sI, kd_sL, ln_sL, hl_sL, gI_sL, gR_sL, kd_sR, ln_sR, hl_sR, gI_sR, gL_sR, kd_cpI, ln_cpI, hl_cpI, gL_cpI, gR_cpI, gI_cpI, gI_sI, gL_sL, gR_sR, St_sI, St_sL, St_cpI, Nat.reduceEqDiff, Nat.reduceAdd, eq_self, false_and, and_false, true_and, and_true, and_self, if_true, if_false, false_or, or_false, true_or, or_true, not_true_eq_false, not_false_eq_true, reduceIte, K_45, F_45_0, K_43, F_43_0, hv, k3, (eq_false (by simp (disch := omega) only [nI_lit, nI_add, lt_nI, le_nI, eq_nI] <;> omega) : (nI (tkV (tks x i)) < nI a) = False), (eq_false (by simp (disch := omega) only [nI_lit, nI_add, lt_nI, le_nI, eq_nI] <;> omega) : (nI (tkV (tks x i)) ≤ nI b) = False), k1, hS1, s4, List.length_nil, List.length_cons, Nat.zero_le]
theorem c_numberB {o c p : Nat} {a b : Int32} {h : MH} (hB : BC o c p h) {μ : Nat} (hμ : 6 < μ) : ∃ v, cal 61 [.ref 45, .int a, .int b] μ h = some (some (.int v), h) := by
  have hS := hB.1
  have s3 := s_Re_refuseB hS hB.nz 2 (μ := 6) (by omega)
  have s4 := s_Ta_stop hS hB.2.1.2.2.1 (μ := 6) (by omega)
  have k := hB.2.1.2.2.1
  refine ⟨gI h 43 4, ?_⟩
  rw [C_61 45 _ _ μ _ (K_45 hS) (by decide) hμ]
  simp (disch := first | assumption | exact b2i_01 _ | decide | omega | (simp only [kd_sI, ln_sI, hl_sI, gL_sI, gR_sI, kd_sL, ln_sL, hl_sL, gI_sL, gR_sL, kd_sR, ln_sR, hl_sR, gI_sR, gL_sR, kd_cpI, ln_cpI, hl_cpI, gL_cpI, gR_cpI, gI_cpI, gI_sI, gL_sL, gR_sR, St_sI, St_sL, St_cpI, Nat.reduceEqDiff, Nat.reduceAdd, eq_self, false_and, and_false, true_and, and_true, and_self, if_true, if_false, false_or, or_false, true_or, or_true, not_true_eq_false, not_false_eq_true, reduceIte, K_45, F_45_0, K_43, F_43_0, hS, k, show ((5 : Int32) = 3) = False by decide, s3, s4, List.length_nil, List.length_cons, Nat.zero_le] <;> first | done | decide | omega | fail) | fail) only [B_61_0, e_aload_n_0, G_600, G_904, e_istore_n_3, clr_i, clr_l, clr_a, clr_n, G_902, e_iconst_3, e_ic_eq, e_iconst_2, e_call_2, psh_s, psh_n, Option.bind_some, e_goto, T_61_27, B_61_27, e_iload_n_3, e_iload_n_1, e_ic_lt, e_iload_n_2, e_ic_le, e_gotow, T_61_37, B_61_37, e_iconst_4, T_61_42, B_61_42, e_call_1, R_61, kd_sI, ln_sI, hl_sI, gL_sI, gR_sI, kd_sL, ln_sL, hl_sL, gI_sL, gR_sL, kd_sR, ln_sR, hl_sR, gI_sR, gL_sR, kd_cpI, ln_cpI, hl_cpI, gL_cpI, gR_cpI, gI_cpI, gI_sI, gL_sL, gR_sR, St_sI, St_sL, St_cpI, Nat.reduceEqDiff, Nat.reduceAdd, eq_self, false_and, and_false, true_and, and_true, and_self, if_true, if_false, false_or, or_false, true_or, or_true, not_true_eq_false, not_false_eq_true, reduceIte, K_45, F_45_0, K_43, F_43_0, k, show ((5 : Int32) = 3) = False by decide, s3, s4, List.length_nil, List.length_cons, Nat.zero_le]
theorem c_word {x : Txt} {o i : Nat} {h : MH} (hG : BsC x o i h) (w : Int64) {μ : Nat} (hμ : 6 < μ) :
    (tkK (tks x i) = 2 ∧ tkW (tks x i) = w → ∃ h', cal 67 [.ref 45, .long w] μ h = some (none, h') ∧ BsC x o (i + 1) h' ∧ Sm h h' WS) ∧
    (¬ (tkK (tks x i) = 2 ∧ tkW (tks x i) = w) → ∃ h', cal 67 [.ref 45, .long w] μ h = some (none, h') ∧ BC o (fc x i 2) (tkS (tks x i)) h' ∧ Sm h h' WS) := by
  have e10 : ((1 : Int32) = 0) = False := by simp
  have hG0 := hG
  obtain ⟨hS, g2, g3, ⟨g4, g5, g6⟩, g7⟩ := hG
  have q := s_Re_isWord hS g3 (tks_5 g2.1 i) w (μ := 6) (by omega)
  refine ⟨fun c => ?_, fun c => ?_⟩
  · rw [decide_eq_true c, b2i_t] at q
    obtain ⟨h1, k1, G1, m1⟩ := hG0.step (μ := 6) (by omega)
    refine ⟨h1, ?_, G1, m1⟩
    rw [C_67 45 _ μ _ (K_45 hS) (by decide) hμ]
    simp (disch := first | assumption | exact b2i_01 _ | decide | omega | (simp only [kd_sI, ln_sI, hl_sI, gL_sI, gR_sI, kd_sL, ln_sL, hl_sL, gI_sL, gR_sL, kd_sR, ln_sR, hl_sR, gI_sR, gL_sR, kd_cpI, ln_cpI, hl_cpI, gL_cpI, gR_cpI, gI_cpI, gI_sI, gL_sL, gR_sR, St_sI, St_sL, St_cpI, Nat.reduceEqDiff, Nat.reduceAdd, eq_self, false_and, and_false, true_and, and_true, and_self, if_true, if_false, false_or, or_false, true_or, or_true, not_true_eq_false, not_false_eq_true, reduceIte, K_45, F_45_0, K_43, F_43_0, hS, q, e10, k1, List.length_nil, List.length_cons, Nat.zero_le] <;> first | done | decide | omega | fail) | fail) only [B_67_0, e_aload_n_0, e_lload_n_1, e_call_2, psh_s, psh_n, Option.bind_some, e_if_ne, e_iconst_2, e_gotow, T_67_13, B_67_13, G_600, e_call_1, R_67, kd_sI, ln_sI, hl_sI, gL_sI, gR_sI, kd_sL, ln_sL, hl_sL, gI_sL, gR_sL, kd_sR, ln_sR, hl_sR, gI_sR, gL_sR, kd_cpI, ln_cpI, hl_cpI, gL_cpI, gR_cpI, gI_cpI, gI_sI, gL_sL, gR_sR, St_sI, St_sL, St_cpI, Nat.reduceEqDiff, Nat.reduceAdd, eq_self, false_and, and_false, true_and, and_true, and_self, if_true, if_false, false_or, or_false, true_or, or_true, not_true_eq_false, not_false_eq_true, reduceIte, K_45, F_45_0, K_43, F_43_0, q, e10, k1, List.length_nil, List.length_cons, Nat.zero_le]
  · rw [decide_eq_false c, b2i_f] at q
    obtain ⟨h1, k1, B1, m1⟩ := hG0.refuse (c := 2) (by decide) (by decide) (μ := 6) (by omega)
    have k1 : cal 57 [.ref 45, .int 2] 6 h = some (none, h1) := k1
    have hS1 := B1.1
    have s4 := s_Ta_stop hS1 B1.2.1.2.2.1 (μ := 6) (by omega)
    refine ⟨h1, ?_, B1, m1⟩
    rw [C_67 45 _ μ _ (K_45 hS) (by decide) hμ]
    simp (disch := first | assumption | exact b2i_01 _ | decide | omega | (simp only [kd_sI, ln_sI, hl_sI, gL_sI, gR_sI, kd_sL, ln_sL, hl_sL, gI_sL, gR_sL, kd_sR, ln_sR, hl_sR, gI_sR, gL_sR, kd_cpI, ln_cpI, hl_cpI, gL_cpI, gR_cpI, gI_cpI, gI_sI, gL_sL, gR_sR, St_sI, St_sL, St_cpI, Nat.reduceEqDiff, Nat.reduceAdd, eq_self, false_and, and_false, true_and, and_true, and_self, if_true, if_false, false_or, or_false, true_or, or_true, not_true_eq_false, not_false_eq_true, reduceIte, K_45, F_45_0, K_43, F_43_0, hS, q, k1, hS1, s4, List.length_nil, List.length_cons, Nat.zero_le] <;> first | done | decide | omega | fail) | fail) only [B_67_0, e_aload_n_0, e_lload_n_1, e_call_2, psh_s, psh_n, Option.bind_some, e_if_ne, e_iconst_2, e_gotow, T_67_13, B_67_13, G_600, e_call_1, R_67, kd_sI, ln_sI, hl_sI, gL_sI, gR_sI, kd_sL, ln_sL, hl_sL, gI_sL, gR_sL, kd_sR, ln_sR, hl_sR, gI_sR, gL_sR, kd_cpI, ln_cpI, hl_cpI, gL_cpI, gR_cpI, gI_cpI, gI_sI, gL_sL, gR_sR, St_sI, St_sL, St_cpI, Nat.reduceEqDiff, Nat.reduceAdd, eq_self, false_and, and_false, true_and, and_true, and_self, if_true, if_false, false_or, or_false, true_or, or_true, not_true_eq_false, not_false_eq_true, reduceIte, K_45, F_45_0, K_43, F_43_0, q, k1, hS1, s4, List.length_nil, List.length_cons, Nat.zero_le]
theorem c_wordB {o c p : Nat} {w : Int64} {h : MH} (hB : BC o c p h) {μ : Nat} (hμ : 6 < μ) : cal 67 [.ref 45, .long w] μ h = some (none, h) := by
  have hS := hB.1
  have q := s_Re_isWordB hS hB.2.1.2.2.1 w (μ := 6) (by omega)
  have s3 := s_Re_refuseB hS hB.nz 2 (μ := 6) (by omega)
  have s4 := s_Ta_stop hS hB.2.1.2.2.1 (μ := 6) (by omega)
  rw [C_67 45 _ μ _ (K_45 hS) (by decide) hμ]
  simp (disch := first | assumption | exact b2i_01 _ | decide | omega | (simp only [kd_sI, ln_sI, hl_sI, gL_sI, gR_sI, kd_sL, ln_sL, hl_sL, gI_sL, gR_sL, kd_sR, ln_sR, hl_sR, gI_sR, gL_sR, kd_cpI, ln_cpI, hl_cpI, gL_cpI, gR_cpI, gI_cpI, gI_sI, gL_sL, gR_sR, St_sI, St_sL, St_cpI, Nat.reduceEqDiff, Nat.reduceAdd, eq_self, false_and, and_false, true_and, and_true, and_self, if_true, if_false, false_or, or_false, true_or, or_true, not_true_eq_false, not_false_eq_true, reduceIte, K_45, F_45_0, K_43, F_43_0, hS, q, s3, s4, List.length_nil, List.length_cons, Nat.zero_le] <;> first | done | decide | omega | fail) | fail) only [B_67_0, e_aload_n_0, e_lload_n_1, e_call_2, psh_s, psh_n, Option.bind_some, e_if_ne, e_iconst_2, e_gotow, T_67_13, B_67_13, G_600, e_call_1, R_67, kd_sI, ln_sI, hl_sI, gL_sI, gR_sI, kd_sL, ln_sL, hl_sL, gI_sL, gR_sL, kd_sR, ln_sR, hl_sR, gI_sR, gL_sR, kd_cpI, ln_cpI, hl_cpI, gL_cpI, gR_cpI, gI_cpI, gI_sI, gL_sL, gR_sR, St_sI, St_sL, St_cpI, Nat.reduceEqDiff, Nat.reduceAdd, eq_self, false_and, and_false, true_and, and_true, and_self, if_true, if_false, false_or, or_false, true_or, or_true, not_true_eq_false, not_false_eq_true, reduceIte, K_45, F_45_0, K_43, F_43_0, q, s3, s4, List.length_nil, List.length_cons, Nat.zero_le]
theorem c_sign {x : Txt} {o i : Nat} {h : MH} (hG : BsC x o i h) {μ : Nat} (hμ : 6 < μ) :
    (isS (tks x i) 59 = true → ∃ h', cal 94 [.ref 45, .int 59] μ h = some (none, h') ∧ BsC x o (i + 1) h' ∧ Sm h h' WS) ∧
    (¬ isS (tks x i) 59 = true → ∃ h', cal 94 [.ref 45, .int 59] μ h = some (none, h') ∧ BC o (fc x i 2) (tkS (tks x i)) h' ∧ Sm h h' WS) := by
  have e10 : ((1 : Int32) = 0) = False := by simp
  have hG0 := hG
  obtain ⟨hS, g2, g3, ⟨g4, g5, g6⟩, g7⟩ := hG
  have q := s_Re_isSign hS g3 (tks_5 g2.1 i) (c := 59) (by decide) (tks_v g2.1) (μ := 6) (by omega)
  have q : cal 89 [.ref 45, .int 59] 6 h = _ := q
  refine ⟨fun c => ?_, fun c => ?_⟩
  · rw [c, b2i_t] at q
    obtain ⟨h1, k1, G1, m1⟩ := hG0.step (μ := 6) (by omega)
    refine ⟨h1, ?_, G1, m1⟩
    rw [C_94 45 _ μ _ (K_45 hS) (by decide) hμ]
    simp (disch := first | assumption | exact b2i_01 _ | decide | omega | (simp only [kd_sI, ln_sI, hl_sI, gL_sI, gR_sI, kd_sL, ln_sL, hl_sL, gI_sL, gR_sL, kd_sR, ln_sR, hl_sR, gI_sR, gL_sR, kd_cpI, ln_cpI, hl_cpI, gL_cpI, gR_cpI, gI_cpI, gI_sI, gL_sL, gR_sR, St_sI, St_sL, St_cpI, Nat.reduceEqDiff, Nat.reduceAdd, eq_self, false_and, and_false, true_and, and_true, and_self, if_true, if_false, false_or, or_false, true_or, or_true, not_true_eq_false, not_false_eq_true, reduceIte, K_45, F_45_0, K_43, F_43_0, hS, q, e10, k1, List.length_nil, List.length_cons, Nat.zero_le] <;> first | done | decide | omega | fail) | fail) only [B_94_0, e_aload_n_0, e_iload_n_1, e_call_2, psh_s, psh_n, Option.bind_some, e_if_ne, e_iconst_2, e_gotow, T_94_13, B_94_13, G_600, e_call_1, R_94, kd_sI, ln_sI, hl_sI, gL_sI, gR_sI, kd_sL, ln_sL, hl_sL, gI_sL, gR_sL, kd_sR, ln_sR, hl_sR, gI_sR, gL_sR, kd_cpI, ln_cpI, hl_cpI, gL_cpI, gR_cpI, gI_cpI, gI_sI, gL_sL, gR_sR, St_sI, St_sL, St_cpI, Nat.reduceEqDiff, Nat.reduceAdd, eq_self, false_and, and_false, true_and, and_true, and_self, if_true, if_false, false_or, or_false, true_or, or_true, not_true_eq_false, not_false_eq_true, reduceIte, K_45, F_45_0, K_43, F_43_0, q, e10, k1, List.length_nil, List.length_cons, Nat.zero_le]
  · rw [show isS (tks x i) 59 = false from Bool.eq_false_iff.mpr c, b2i_f] at q
    obtain ⟨h1, k1, B1, m1⟩ := hG0.refuse (c := 2) (by decide) (by decide) (μ := 6) (by omega)
    have k1 : cal 57 [.ref 45, .int 2] 6 h = some (none, h1) := k1
    have hS1 := B1.1
    have s4 := s_Ta_stop hS1 B1.2.1.2.2.1 (μ := 6) (by omega)
    refine ⟨h1, ?_, B1, m1⟩
    rw [C_94 45 _ μ _ (K_45 hS) (by decide) hμ]
    simp (disch := first | assumption | exact b2i_01 _ | decide | omega | (simp only [kd_sI, ln_sI, hl_sI, gL_sI, gR_sI, kd_sL, ln_sL, hl_sL, gI_sL, gR_sL, kd_sR, ln_sR, hl_sR, gI_sR, gL_sR, kd_cpI, ln_cpI, hl_cpI, gL_cpI, gR_cpI, gI_cpI, gI_sI, gL_sL, gR_sR, St_sI, St_sL, St_cpI, Nat.reduceEqDiff, Nat.reduceAdd, eq_self, false_and, and_false, true_and, and_true, and_self, if_true, if_false, false_or, or_false, true_or, or_true, not_true_eq_false, not_false_eq_true, reduceIte, K_45, F_45_0, K_43, F_43_0, hS, q, k1, hS1, s4, List.length_nil, List.length_cons, Nat.zero_le] <;> first | done | decide | omega | fail) | fail) only [B_94_0, e_aload_n_0, e_iload_n_1, e_call_2, psh_s, psh_n, Option.bind_some, e_if_ne, e_iconst_2, e_gotow, T_94_13, B_94_13, G_600, e_call_1, R_94, kd_sI, ln_sI, hl_sI, gL_sI, gR_sI, kd_sL, ln_sL, hl_sL, gI_sL, gR_sL, kd_sR, ln_sR, hl_sR, gI_sR, gL_sR, kd_cpI, ln_cpI, hl_cpI, gL_cpI, gR_cpI, gI_cpI, gI_sI, gL_sL, gR_sR, St_sI, St_sL, St_cpI, Nat.reduceEqDiff, Nat.reduceAdd, eq_self, false_and, and_false, true_and, and_true, and_self, if_true, if_false, false_or, or_false, true_or, or_true, not_true_eq_false, not_false_eq_true, reduceIte, K_45, F_45_0, K_43, F_43_0, q, k1, hS1, s4, List.length_nil, List.length_cons, Nat.zero_le]
theorem c_signB {o c p : Nat} {h : MH} (hB : BC o c p h) {μ : Nat} (hμ : 6 < μ) : cal 94 [.ref 45, .int 59] μ h = some (none, h) := by
  have hS := hB.1
  have q := s_Re_isSignB hS hB.2.1.2.2.1 59 (μ := 6) (by omega)
  have s3 := s_Re_refuseB hS hB.nz 2 (μ := 6) (by omega)
  have s4 := s_Ta_stop hS hB.2.1.2.2.1 (μ := 6) (by omega)
  rw [C_94 45 _ μ _ (K_45 hS) (by decide) hμ]
  simp (disch := first | assumption | exact b2i_01 _ | decide | omega | (simp only [kd_sI, ln_sI, hl_sI, gL_sI, gR_sI, kd_sL, ln_sL, hl_sL, gI_sL, gR_sL, kd_sR, ln_sR, hl_sR, gI_sR, gL_sR, kd_cpI, ln_cpI, hl_cpI, gL_cpI, gR_cpI, gI_cpI, gI_sI, gL_sL, gR_sR, St_sI, St_sL, St_cpI, Nat.reduceEqDiff, Nat.reduceAdd, eq_self, false_and, and_false, true_and, and_true, and_self, if_true, if_false, false_or, or_false, true_or, or_true, not_true_eq_false, not_false_eq_true, reduceIte, K_45, F_45_0, K_43, F_43_0, hS, q, s3, s4, List.length_nil, List.length_cons, Nat.zero_le] <;> first | done | decide | omega | fail) | fail) only [B_94_0, e_aload_n_0, e_iload_n_1, e_call_2, psh_s, psh_n, Option.bind_some, e_if_ne, e_iconst_2, e_gotow, T_94_13, B_94_13, G_600, e_call_1, R_94, kd_sI, ln_sI, hl_sI, gL_sI, gR_sI, kd_sL, ln_sL, hl_sL, gI_sL, gR_sL, kd_sR, ln_sR, hl_sR, gI_sR, gL_sR, kd_cpI, ln_cpI, hl_cpI, gL_cpI, gR_cpI, gI_cpI, gI_sI, gL_sL, gR_sR, St_sI, St_sL, St_cpI, Nat.reduceEqDiff, Nat.reduceAdd, eq_self, false_and, and_false, true_and, and_true, and_self, if_true, if_false, false_or, or_false, true_or, or_true, not_true_eq_false, not_false_eq_true, reduceIte, K_45, F_45_0, K_43, F_43_0, q, s3, s4, List.length_nil, List.length_cons, Nat.zero_le]
theorem c_look {x : Txt} {o i : Nat} {h : MH} (hG : BsC x o i h) {N : List Int64} {a m : Nat} (hN : NmC a m N h) {μ : Nat} (hμ : 4 < μ) :
    (nam (tks x i) = true → fnd N (tkW (tks x i)) < N.length → cal 68 [.ref 45, .ref a] μ h = some (some (.int (nI (fnd N (tkW (tks x i))))), h)) ∧
    (nam (tks x i) = false → ∃ h', cal 68 [.ref 45, .ref a] μ h = some (some (.int (-1)), h') ∧ BC o (fc x i 2) (tkS (tks x i)) h' ∧ Sm h h' WS) ∧
    (nam (tks x i) = true → ¬ fnd N (tkW (tks x i)) < N.length → ∃ h', cal 68 [.ref 45, .ref a] μ h = some (some (.int (-1)), h') ∧ BC o (fc x i 5) (tkS (tks x i)) h' ∧ Sm h h' WS) := by
  have e10 : ((1 : Int32) = 0) = False := by simp
  have hG0 := hG
  obtain ⟨hS, g2, g3, ⟨g4, g5, g6⟩, g7⟩ := hG
  have w := s_Re_isName hS g7 g3 (tks_5 g2.1 i) (μ := 4) (by omega)
  have hw : nam (tks x i) = true → gL h 43 5 = tkW (tks x i) := fun c => g3.2.2.2.2 (by
    unfold nam at c
    simp only [Bool.and_eq_true, beq_iff_eq] at c
    exact c.1)
  refine ⟨fun c d => ?_, fun c => ?_, fun c d => ?_⟩
  · rw [c, b2i_t] at w
    have s0 := s_Na_numberOf (tkW (tks x i)) hN (μ := 4) (by omega)
    unfold fnI at s0
    rw [if_pos d] at s0
    have hM := hN.2.1
    have hM2 := hN.1.2.2.2.2.2
    have n1 : ¬ nI (fnd N (tkW (tks x i))) = -1 := nI_m1 (by omega)
    have hw := hw c
    rw [C_68 45 _ μ _ (K_45 hS) (by decide) hμ]
    simp (disch := first | assumption | exact b2i_01 _ | decide | omega | (simp only [kd_sI, ln_sI, hl_sI, gL_sI, gR_sI, kd_sL, ln_sL, hl_sL, gI_sL, gR_sL, kd_sR, ln_sR, hl_sR, gI_sR, gL_sR, kd_cpI, ln_cpI, hl_cpI, gL_cpI, gR_cpI, gI_cpI, gI_sI, gL_sL, gR_sR, St_sI, St_sL, St_cpI, Nat.reduceEqDiff, Nat.reduceAdd, eq_self, false_and, and_false, true_and, and_true, and_self, if_true, if_false, false_or, or_false, true_or, or_true, not_true_eq_false, not_false_eq_true, reduceIte, K_45, F_45_0, K_43, F_43_0, hS, w, e10, hw, s0, n1, List.length_nil, List.length_cons, Nat.zero_le] <;> first | done | decide | omega | fail) | fail) only [B_68_0, e_aload_n_0, e_call_1, psh_s, psh_n, Option.bind_some, e_if_ne, e_iconst_2, e_call_2, e_iconst_m1, R_68, T_68_14, B_68_14, e_aload_n_1, G_600, G_905, e_istore_n_2, clr_i, clr_l, clr_a, clr_n, e_iload_n_2, e_ic_ne, e_iconst_5, e_gotow, T_68_36, B_68_36, kd_sI, ln_sI, hl_sI, gL_sI, gR_sI, kd_sL, ln_sL, hl_sL, gI_sL, gR_sL, kd_sR, ln_sR, hl_sR, gI_sR, gL_sR, kd_cpI, ln_cpI, hl_cpI, gL_cpI, gR_cpI, gI_cpI, gI_sI, gL_sL, gR_sR, St_sI, St_sL, St_cpI, Nat.reduceEqDiff, Nat.reduceAdd, eq_self, false_and, and_false, true_and, and_true, and_self, if_true, if_false, false_or, or_false, true_or, or_true, not_true_eq_false, not_false_eq_true, reduceIte, K_45, F_45_0, K_43, F_43_0, w, e10, hw, s0, n1, List.length_nil, List.length_cons, Nat.zero_le]
  · rw [c, b2i_f] at w
    obtain ⟨h1, k1, B1, m1⟩ := hG0.refuse (c := 2) (by decide) (by decide) (μ := 4) (by omega)
    have k1 : cal 57 [.ref 45, .int 2] 4 h = some (none, h1) := k1
    refine ⟨h1, ?_, B1, m1⟩
    rw [C_68 45 _ μ _ (K_45 hS) (by decide) hμ]
    simp (disch := first | assumption | exact b2i_01 _ | decide | omega | (simp only [kd_sI, ln_sI, hl_sI, gL_sI, gR_sI, kd_sL, ln_sL, hl_sL, gI_sL, gR_sL, kd_sR, ln_sR, hl_sR, gI_sR, gL_sR, kd_cpI, ln_cpI, hl_cpI, gL_cpI, gR_cpI, gI_cpI, gI_sI, gL_sL, gR_sR, St_sI, St_sL, St_cpI, Nat.reduceEqDiff, Nat.reduceAdd, eq_self, false_and, and_false, true_and, and_true, and_self, if_true, if_false, false_or, or_false, true_or, or_true, not_true_eq_false, not_false_eq_true, reduceIte, K_45, F_45_0, hS, w, k1, List.length_nil, List.length_cons, Nat.zero_le] <;> first | done | decide | omega | fail) | fail) only [B_68_0, e_aload_n_0, e_call_1, psh_s, psh_n, Option.bind_some, e_if_ne, e_iconst_2, e_call_2, e_iconst_m1, R_68, T_68_14, B_68_14, e_aload_n_1, G_600, G_905, e_istore_n_2, clr_i, clr_l, clr_a, clr_n, e_iload_n_2, e_ic_ne, e_iconst_5, e_gotow, T_68_36, B_68_36, kd_sI, ln_sI, hl_sI, gL_sI, gR_sI, kd_sL, ln_sL, hl_sL, gI_sL, gR_sL, kd_sR, ln_sR, hl_sR, gI_sR, gL_sR, kd_cpI, ln_cpI, hl_cpI, gL_cpI, gR_cpI, gI_cpI, gI_sI, gL_sL, gR_sR, St_sI, St_sL, St_cpI, Nat.reduceEqDiff, Nat.reduceAdd, eq_self, false_and, and_false, true_and, and_true, and_self, if_true, if_false, false_or, or_false, true_or, or_true, not_true_eq_false, not_false_eq_true, reduceIte, K_45, F_45_0, w, k1, List.length_nil, List.length_cons, Nat.zero_le]
  · rw [c, b2i_t] at w
    have s0 := s_Na_numberOf (tkW (tks x i)) hN (μ := 4) (by omega)
    unfold fnI at s0
    rw [if_neg d] at s0
    obtain ⟨h1, k1, B1, m1⟩ := hG0.refuse (c := 5) (by decide) (by decide) (μ := 4) (by omega)
    have k1 : cal 57 [.ref 45, .int 5] 4 h = some (none, h1) := k1
    refine ⟨h1, ?_, B1, m1⟩
    have hw := hw c
    rw [C_68 45 _ μ _ (K_45 hS) (by decide) hμ]
    simp (disch := first | assumption | exact b2i_01 _ | decide | omega | (simp only [kd_sI, ln_sI, hl_sI, gL_sI, gR_sI, kd_sL, ln_sL, hl_sL, gI_sL, gR_sL, kd_sR, ln_sR, hl_sR, gI_sR, gL_sR, kd_cpI, ln_cpI, hl_cpI, gL_cpI, gR_cpI, gI_cpI, gI_sI, gL_sL, gR_sR, St_sI, St_sL, St_cpI, Nat.reduceEqDiff, Nat.reduceAdd, eq_self, false_and, and_false, true_and, and_true, and_self, if_true, if_false, false_or, or_false, true_or, or_true, not_true_eq_false, not_false_eq_true, reduceIte, K_45, F_45_0, K_43, F_43_0, hS, w, e10, hw, s0, k1, List.length_nil, List.length_cons, Nat.zero_le] <;> first | done | decide | omega | fail) | fail) only [B_68_0, e_aload_n_0, e_call_1, psh_s, psh_n, Option.bind_some, e_if_ne, e_iconst_2, e_call_2, e_iconst_m1, R_68, T_68_14, B_68_14, e_aload_n_1, G_600, G_905, e_istore_n_2, clr_i, clr_l, clr_a, clr_n, e_iload_n_2, e_ic_ne, e_iconst_5, e_gotow, T_68_36, B_68_36, kd_sI, ln_sI, hl_sI, gL_sI, gR_sI, kd_sL, ln_sL, hl_sL, gI_sL, gR_sL, kd_sR, ln_sR, hl_sR, gI_sR, gL_sR, kd_cpI, ln_cpI, hl_cpI, gL_cpI, gR_cpI, gI_cpI, gI_sI, gL_sL, gR_sR, St_sI, St_sL, St_cpI, Nat.reduceEqDiff, Nat.reduceAdd, eq_self, false_and, and_false, true_and, and_true, and_self, if_true, if_false, false_or, or_false, true_or, or_true, not_true_eq_false, not_false_eq_true, reduceIte, K_45, F_45_0, K_43, F_43_0, w, e10, hw, s0, k1, List.length_nil, List.length_cons, Nat.zero_le]
theorem c_lookB {o c p a : Nat} {h : MH} (hB : BC o c p h) {μ : Nat} (hμ : 4 < μ) : cal 68 [.ref 45, .ref a] μ h = some (some (.int (-1)), h) := by
  have hS := hB.1
  have w := s_Re_isNameB hS hB.2.1.2.2.1 (μ := 4) (by omega)
  have s3 := s_Re_refuseB hS hB.nz 2 (μ := 4) (by omega)
  rw [C_68 45 _ μ _ (K_45 hS) (by decide) hμ]
  simp (disch := first | assumption | exact b2i_01 _ | decide | omega | (simp only [kd_sI, ln_sI, hl_sI, gL_sI, gR_sI, kd_sL, ln_sL, hl_sL, gI_sL, gR_sL, kd_sR, ln_sR, hl_sR, gI_sR, gL_sR, kd_cpI, ln_cpI, hl_cpI, gL_cpI, gR_cpI, gI_cpI, gI_sI, gL_sL, gR_sR, St_sI, St_sL, St_cpI, Nat.reduceEqDiff, Nat.reduceAdd, eq_self, false_and, and_false, true_and, and_true, and_self, if_true, if_false, false_or, or_false, true_or, or_true, not_true_eq_false, not_false_eq_true, reduceIte, K_45, F_45_0, hS, w, s3, List.length_nil, List.length_cons, Nat.zero_le] <;> first | done | decide | omega | fail) | fail) only [B_68_0, e_aload_n_0, e_call_1, psh_s, psh_n, Option.bind_some, e_if_ne, e_iconst_2, e_call_2, e_iconst_m1, R_68, T_68_14, B_68_14, e_aload_n_1, G_600, G_905, e_istore_n_2, clr_i, clr_l, clr_a, clr_n, e_iload_n_2, e_ic_ne, e_iconst_5, e_gotow, T_68_36, B_68_36, kd_sI, ln_sI, hl_sI, gL_sI, gR_sI, kd_sL, ln_sL, hl_sL, gI_sL, gR_sL, kd_sR, ln_sR, hl_sR, gI_sR, gL_sR, kd_cpI, ln_cpI, hl_cpI, gL_cpI, gR_cpI, gI_cpI, gI_sI, gL_sL, gR_sR, St_sI, St_sL, St_cpI, Nat.reduceEqDiff, Nat.reduceAdd, eq_self, false_and, and_false, true_and, and_true, and_self, if_true, if_false, false_or, or_false, true_or, or_true, not_true_eq_false, not_false_eq_true, reduceIte, K_45, F_45_0, w, s3, List.length_nil, List.length_cons, Nat.zero_le]
theorem s_Na_isFull {a M : Nat} {N : List Int64} {h : MH} (hN : NmC a M N h) {μ : Nat} (hμ : 3 < μ) : cal 56 [.ref a] μ h = some (some (.int (b2i (decide (M ≤ N.length)))), h) := by
  obtain ⟨⟨k1, k2, k3, k4, k5, k6⟩, n1, n2, n3⟩ := hN
  rw [C_56 a μ h k1 k2 hμ]
  by_cases c : M ≤ N.length
  · rw [decide_eq_true c, b2i_t]
    simp (disch := first | assumption | decide | omega) only [B_56_0, e_aload_n_0, G_401, G_400, e_alen, e_ic_lt, e_iconst_1, e_goto, T_56_16, B_56_16, e_iconst_0, e_gotow, T_56_17, B_56_17, R_56, eq_self, true_or, or_true, b2i_or, k1, k2, k3, k4, k5, n2, (eq_false (by simp (disch := omega) only [nI_lit, nI_add, lt_nI, le_nI, eq_nI] <;> omega) : (nI N.length < nI M) = False), if_false]
  · rw [decide_eq_false c, b2i_f]
    simp (disch := first | assumption | decide | omega) only [B_56_0, e_aload_n_0, G_401, G_400, e_alen, e_ic_lt, e_iconst_1, e_goto, T_56_16, B_56_16, e_iconst_0, e_gotow, T_56_17, B_56_17, R_56, eq_self, true_or, or_true, b2i_or, k1, k2, k3, k4, k5, n2, (eq_true (by simp (disch := omega) only [nI_lit, nI_add, lt_nI, le_nI, eq_nI] <;> omega) : (nI N.length < nI M) = True), if_true]
theorem c_startOf {x : Txt} {o i : Nat} {h : MH} (hG : BsC x o i h) {N : List Int64} {a m : Nat} (hN : NmC a m N h) {μ : Nat} (hμ : 6 < μ) :
    (N.length < m → ∃ h', cal 55 [.ref 45, .ref a] μ h = some (none, h') ∧ BsC x o (i + 1) h' ∧ Sm h h' WS) ∧
    (¬ N.length < m → ∃ h', cal 55 [.ref 45, .ref a] μ h = some (none, h') ∧ BC o (fc x i 2) (tkS (tks x i)) h' ∧ Sm h h' WS) := by
  have e10 : ((1 : Int32) = 0) = False := by simp
  have hG0 := hG
  obtain ⟨hS, g2, g3, ⟨g4, g5, g6⟩, g7⟩ := hG
  have q := s_Na_isFull hN (μ := 6) (by omega)
  refine ⟨fun c => ?_, fun c => ?_⟩
  · rw [decide_eq_false (by omega), b2i_f] at q
    obtain ⟨h1, k1, G1, m1⟩ := hG0.step (μ := 6) (by omega)
    refine ⟨h1, ?_, G1, m1⟩
    rw [C_55 45 _ μ _ (K_45 hS) (by decide) hμ]
    simp (disch := first | assumption | exact b2i_01 _ | decide | omega | (simp only [kd_sI, ln_sI, hl_sI, gL_sI, gR_sI, kd_sL, ln_sL, hl_sL, gI_sL, gR_sL, kd_sR, ln_sR, hl_sR, gI_sR, gL_sR, kd_cpI, ln_cpI, hl_cpI, gL_cpI, gR_cpI, gI_cpI, gI_sI, gL_sL, gR_sR, St_sI, St_sL, St_cpI, Nat.reduceEqDiff, Nat.reduceAdd, eq_self, false_and, and_false, true_and, and_true, and_self, if_true, if_false, false_or, or_false, true_or, or_true, not_true_eq_false, not_false_eq_true, reduceIte, K_45, F_45_0, K_43, F_43_0, hS, q, k1, List.length_nil, List.length_cons, Nat.zero_le] <;> first | done | decide | omega | fail) | fail) only [B_55_0, e_aload_n_1, e_call_1, psh_s, psh_n, Option.bind_some, e_if_eq, e_aload_n_0, e_iconst_2, e_call_2, e_gotow, T_55_12, B_55_12, G_600, R_55, kd_sI, ln_sI, hl_sI, gL_sI, gR_sI, kd_sL, ln_sL, hl_sL, gI_sL, gR_sL, kd_sR, ln_sR, hl_sR, gI_sR, gL_sR, kd_cpI, ln_cpI, hl_cpI, gL_cpI, gR_cpI, gI_cpI, gI_sI, gL_sL, gR_sR, St_sI, St_sL, St_cpI, Nat.reduceEqDiff, Nat.reduceAdd, eq_self, false_and, and_false, true_and, and_true, and_self, if_true, if_false, false_or, or_false, true_or, or_true, not_true_eq_false, not_false_eq_true, reduceIte, K_45, F_45_0, K_43, F_43_0, q, k1, List.length_nil, List.length_cons, Nat.zero_le]
  · rw [decide_eq_true (by omega), b2i_t] at q
    obtain ⟨h1, k1, B1, m1⟩ := hG0.refuse (c := 2) (by decide) (by decide) (μ := 6) (by omega)
    have k1 : cal 57 [.ref 45, .int 2] 6 h = some (none, h1) := k1
    have hS1 := B1.1
    have s4 := s_Ta_stop hS1 B1.2.1.2.2.1 (μ := 6) (by omega)
    refine ⟨h1, ?_, B1, m1⟩
    rw [C_55 45 _ μ _ (K_45 hS) (by decide) hμ]
    simp (disch := first | assumption | exact b2i_01 _ | decide | omega | (simp only [kd_sI, ln_sI, hl_sI, gL_sI, gR_sI, kd_sL, ln_sL, hl_sL, gI_sL, gR_sL, kd_sR, ln_sR, hl_sR, gI_sR, gL_sR, kd_cpI, ln_cpI, hl_cpI, gL_cpI, gR_cpI, gI_cpI, gI_sI, gL_sL, gR_sR, St_sI, St_sL, St_cpI, Nat.reduceEqDiff, Nat.reduceAdd, eq_self, false_and, and_false, true_and, and_true, and_self, if_true, if_false, false_or, or_false, true_or, or_true, not_true_eq_false, not_false_eq_true, reduceIte, K_45, F_45_0, K_43, F_43_0, hS, q, e10, k1, hS1, s4, List.length_nil, List.length_cons, Nat.zero_le] <;> first | done | decide | omega | fail) | fail) only [B_55_0, e_aload_n_1, e_call_1, psh_s, psh_n, Option.bind_some, e_if_eq, e_aload_n_0, e_iconst_2, e_call_2, e_gotow, T_55_12, B_55_12, G_600, R_55, kd_sI, ln_sI, hl_sI, gL_sI, gR_sI, kd_sL, ln_sL, hl_sL, gI_sL, gR_sL, kd_sR, ln_sR, hl_sR, gI_sR, gL_sR, kd_cpI, ln_cpI, hl_cpI, gL_cpI, gR_cpI, gI_cpI, gI_sI, gL_sL, gR_sR, St_sI, St_sL, St_cpI, Nat.reduceEqDiff, Nat.reduceAdd, eq_self, false_and, and_false, true_and, and_true, and_self, if_true, if_false, false_or, or_false, true_or, or_true, not_true_eq_false, not_false_eq_true, reduceIte, K_45, F_45_0, K_43, F_43_0, q, e10, k1, hS1, s4, List.length_nil, List.length_cons, Nat.zero_le]
