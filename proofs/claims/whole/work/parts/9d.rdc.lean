/-- what stands in brackets -/
theorem pcl_in {x : Txt} {N : List Int64} {o : Nat} {pre : List (Int32 × Int32)} (ho : Oo o) {f : Nat} (hP : Pcl x N o pre f 1 80 13) : ∀ (d : Nat) (q : Qs) (pend c g : Nat) (h : MH) (μ : Nat), d ≤ 7 → qf q = 0 → 16 * (1602 - qi q) ≤ f → qi q ≤ 1600 → PI x N pre pend 0 g q → isS (tks x (qi q)) 40 = true → GC x N o pre q h → 7 + 8 * (8 - d) < μ → ∃ h', cal 90 [.ref 45, .int (nI d)] μ h = some (none, h') ∧ RdC x N o pre (if 6 < d then bad x 2 q else if ¬ qf (rd x N f 1 (d + 1) (stq q)) = 0 then rd x N f 1 (d + 1) (stq q) else if isS (tks x (qi (rd x N f 1 (d + 1) (stq q)))) 41 = true then stq (rd x N f 1 (d + 1) (stq q)) else bad x 2 (rd x N f 1 (d + 1) (stq q))) h' ∧ Sm h h' (WF o) := by
  have e10 : ((1 : Int32) = 0) = False := by simp
  intro d q pend c g h μ hd hq hm hi hI hs hG hμ
  have hS := hG.1
  have hx := hG.2.1.1
  have hmu := muN (k := 90) (r := 7) (d := d) rfl (by omega)
  rw [C_90 45 _ μ h (K_45 hS) (by decide) (by rw [hmu]; exact hμ), hmu]
  by_cases c2 : 6 < d
  · rw [if_pos c2]
    obtain ⟨h1, s1, R1, -, m1⟩ := hG.refuse hq (c := 2) (by decide) (by decide) (μ := 7 + 8 * (8 - d)) (by omega)
    have s1 : cal 57 [.ref 45, .int 2] (7 + 8 * (8 - d)) h = some (none, h1) := s1
    refine ⟨h1, ?_, R1, m1⟩
    simp (disch := first | assumption | exact b2i_01 _ | decide | omega | (simp only [kd_sI, ln_sI, hl_sI, gL_sI, gR_sI, kd_sL, ln_sL, hl_sL, gI_sL, gR_sL, kd_sR, ln_sR, hl_sR, gI_sR, gL_sR, kd_cpI, ln_cpI, hl_cpI, gL_cpI, gR_cpI, gI_cpI, gI_sI, gL_sL, gR_sR, St_sI, St_sL, St_cpI, Nat.reduceEqDiff, Nat.reduceAdd, eq_self, false_and, and_false, true_and, and_true, and_self, if_true, if_false, false_or, or_false, true_or, or_true, not_true_eq_false, not_false_eq_true, reduceIte, K_45, F_45_0, hS, s1, (eq_false (by simp (disch := omega) only [nI_lit, nI_add, lt_nI, le_nI, eq_nI] <;> omega) : (nI d ≤ (6 : Int32)) = False), List.length_nil, List.length_cons, Nat.zero_le] <;> first | done | decide | omega | fail) | fail) only [B_90_0, e_iload_n_1, e_bipush_6, e_ic_le, e_aload_n_0, e_iconst_2, e_call_2, psh_s, psh_n, Option.bind_some, R_90, T_90_12, B_90_12, G_600, e_call_1, e_iconst_1, e_iadd, e_bipush_41, e_if_ne, e_gotow, T_90_40, B_90_40, kd_sI, ln_sI, hl_sI, gL_sI, gR_sI, kd_sL, ln_sL, hl_sL, gI_sL, gR_sL, kd_sR, ln_sR, hl_sR, gI_sR, gL_sR, kd_cpI, ln_cpI, hl_cpI, gL_cpI, gR_cpI, gI_cpI, gI_sI, gL_sL, gR_sR, St_sI, St_sL, St_cpI, Nat.reduceEqDiff, Nat.reduceAdd, eq_self, false_and, and_false, true_and, and_true, and_self, if_true, if_false, false_or, or_false, true_or, or_true, not_true_eq_false, not_false_eq_true, reduceIte, K_45, F_45_0, s1, (eq_false (by simp (disch := omega) only [nI_lit, nI_add, lt_nI, le_nI, eq_nI] <;> omega) : (nI d ≤ (6 : Int32)) = False), List.length_nil, List.length_cons, Nat.zero_le]
  · rw [if_neg c2]
    have hk := isS_k.mp hs
    obtain ⟨h1, s1, G1, m1⟩ := hG.step ho (μ := 7 + 8 * (8 - d)) (by omega)
    have hlt := tks_lt hx (show ¬ tkK (tks x (qi q)) = 0 by omega)
    obtain ⟨h2, s2, R2, m2⟩ := hP (d + 1) (stq q) pend 0 g h1 (7 + 8 * (8 - d)) (by omega) (by omega) hq (by
      have : ms 1 (stq q) = 16 * (1602 - (qi q + 1)) + 9 := rfl
      omega) (by show qi q + 1 ≤ 1600; omega) (hI.stq hx (by omega)) G1 (by omega)
    generalize rd x N f 1 (d + 1) (stq q) = r at R2 ⊢
    have ad := nI_1 d
    have hS1 := G1.1
    rcases R2 with ⟨z, G2⟩ | ⟨z, B2⟩
    · rw [if_neg (fun y => y z)]
      have hS2 := G2.1
      have w := s_Re_isSign hS2 G2.2.2.1 (tks_5 hx (qi r)) (c := 41) (by decide) (tks_v hx) (μ := 7 + 8 * (8 - d)) (by omega)
      have w : cal 89 [.ref 45, .int 41] (7 + 8 * (8 - d)) h2 = _ := w
      by_cases c3 : isS (tks x (qi r)) 41 = true
      · rw [if_pos c3]
        rw [c3, b2i_t] at w
        obtain ⟨h3, s3, G3, m3⟩ := G2.step ho (μ := 7 + 8 * (8 - d)) (by omega)
        refine ⟨h3, ?_, Or.inl ⟨z, G3⟩, ((W43_WF (o := o) m1).trans m2).trans (W43_WF m3)⟩
        simp (disch := first | assumption | exact b2i_01 _ | decide | omega | (simp only [kd_sI, ln_sI, hl_sI, gL_sI, gR_sI, kd_sL, ln_sL, hl_sL, gI_sL, gR_sL, kd_sR, ln_sR, hl_sR, gI_sR, gL_sR, kd_cpI, ln_cpI, hl_cpI, gL_cpI, gR_cpI, gI_cpI, gI_sI, gL_sL, gR_sR, St_sI, St_sL, St_cpI, Nat.reduceEqDiff, Nat.reduceAdd, eq_self, false_and, and_false, true_and, and_true, and_self, if_true, if_false, false_or, or_false, true_or, or_true, not_true_eq_false, not_false_eq_true, reduceIte, K_45, F_45_0, hS, s1, hS1, ad, s2, hS2, w, e10, s3, (eq_true (by simp (disch := omega) only [nI_lit, nI_add, lt_nI, le_nI, eq_nI] <;> omega) : (nI d ≤ (6 : Int32)) = True), List.length_nil, List.length_cons, Nat.zero_le] <;> first | done | decide | omega | fail) | fail) only [B_90_0, e_iload_n_1, e_bipush_6, e_ic_le, e_aload_n_0, e_iconst_2, e_call_2, psh_s, psh_n, Option.bind_some, R_90, T_90_12, B_90_12, G_600, e_call_1, e_iconst_1, e_iadd, e_bipush_41, e_if_ne, e_gotow, T_90_40, B_90_40, kd_sI, ln_sI, hl_sI, gL_sI, gR_sI, kd_sL, ln_sL, hl_sL, gI_sL, gR_sL, kd_sR, ln_sR, hl_sR, gI_sR, gL_sR, kd_cpI, ln_cpI, hl_cpI, gL_cpI, gR_cpI, gI_cpI, gI_sI, gL_sL, gR_sR, St_sI, St_sL, St_cpI, Nat.reduceEqDiff, Nat.reduceAdd, eq_self, false_and, and_false, true_and, and_true, and_self, if_true, if_false, false_or, or_false, true_or, or_true, not_true_eq_false, not_false_eq_true, reduceIte, K_45, F_45_0, s1, hS1, ad, s2, hS2, w, e10, s3, (eq_true (by simp (disch := omega) only [nI_lit, nI_add, lt_nI, le_nI, eq_nI] <;> omega) : (nI d ≤ (6 : Int32)) = True), List.length_nil, List.length_cons, Nat.zero_le]
      · rw [if_neg c3]
        rw [show isS (tks x (qi r)) 41 = false from Bool.eq_false_iff.mpr c3, b2i_f] at w
        obtain ⟨h3, s3, R3, B3, m3⟩ := G2.refuse z (c := 2) (by decide) (by decide) (μ := 7 + 8 * (8 - d)) (by omega)
        have s3 : cal 57 [.ref 45, .int 2] (7 + 8 * (8 - d)) h2 = some (none, h3) := s3
        have hS3 := B3.1
        have s4 := s_Ta_stop hS3 B3.2.1.2.2.1 (μ := 7 + 8 * (8 - d)) (by omega)
        refine ⟨h3, ?_, R3, ((W43_WF (o := o) m1).trans m2).trans m3⟩
        simp (disch := first | assumption | exact b2i_01 _ | decide | omega | (simp only [kd_sI, ln_sI, hl_sI, gL_sI, gR_sI, kd_sL, ln_sL, hl_sL, gI_sL, gR_sL, kd_sR, ln_sR, hl_sR, gI_sR, gL_sR, kd_cpI, ln_cpI, hl_cpI, gL_cpI, gR_cpI, gI_cpI, gI_sI, gL_sL, gR_sR, St_sI, St_sL, St_cpI, Nat.reduceEqDiff, Nat.reduceAdd, eq_self, false_and, and_false, true_and, and_true, and_self, if_true, if_false, false_or, or_false, true_or, or_true, not_true_eq_false, not_false_eq_true, reduceIte, K_45, F_45_0, hS, s1, hS1, ad, s2, hS2, w, s3, hS3, s4, (eq_true (by simp (disch := omega) only [nI_lit, nI_add, lt_nI, le_nI, eq_nI] <;> omega) : (nI d ≤ (6 : Int32)) = True), List.length_nil, List.length_cons, Nat.zero_le] <;> first | done | decide | omega | fail) | fail) only [B_90_0, e_iload_n_1, e_bipush_6, e_ic_le, e_aload_n_0, e_iconst_2, e_call_2, psh_s, psh_n, Option.bind_some, R_90, T_90_12, B_90_12, G_600, e_call_1, e_iconst_1, e_iadd, e_bipush_41, e_if_ne, e_gotow, T_90_40, B_90_40, kd_sI, ln_sI, hl_sI, gL_sI, gR_sI, kd_sL, ln_sL, hl_sL, gI_sL, gR_sL, kd_sR, ln_sR, hl_sR, gI_sR, gL_sR, kd_cpI, ln_cpI, hl_cpI, gL_cpI, gR_cpI, gI_cpI, gI_sI, gL_sL, gR_sR, St_sI, St_sL, St_cpI, Nat.reduceEqDiff, Nat.reduceAdd, eq_self, false_and, and_false, true_and, and_true, and_self, if_true, if_false, false_or, or_false, true_or, or_true, not_true_eq_false, not_false_eq_true, reduceIte, K_45, F_45_0, s1, hS1, ad, s2, hS2, w, s3, hS3, s4, (eq_true (by simp (disch := omega) only [nI_lit, nI_add, lt_nI, le_nI, eq_nI] <;> omega) : (nI d ≤ (6 : Int32)) = True), List.length_nil, List.length_cons, Nat.zero_le]
    · rw [if_pos z]
      have hS2 := B2.1
      have w := s_Re_isSignB hS2 B2.2.1.2.2.1 41 (μ := 7 + 8 * (8 - d)) (by omega)
      have s3 := s_Re_refuseB hS2 B2.nz 2 (μ := 7 + 8 * (8 - d)) (by omega)
      have s4 := s_Ta_stop hS2 B2.2.1.2.2.1 (μ := 7 + 8 * (8 - d)) (by omega)
      refine ⟨h2, ?_, Or.inr ⟨z, B2⟩, (W43_WF (o := o) m1).trans m2⟩
      simp (disch := first | assumption | exact b2i_01 _ | decide | omega | (simp only [kd_sI, ln_sI, hl_sI, gL_sI, gR_sI, kd_sL, ln_sL, hl_sL, gI_sL, gR_sL, kd_sR, ln_sR, hl_sR, gI_sR, gL_sR, kd_cpI, ln_cpI, hl_cpI, gL_cpI, gR_cpI, gI_cpI, gI_sI, gL_sL, gR_sR, St_sI, St_sL, St_cpI, Nat.reduceEqDiff, Nat.reduceAdd, eq_self, false_and, and_false, true_and, and_true, and_self, if_true, if_false, false_or, or_false, true_or, or_true, not_true_eq_false, not_false_eq_true, reduceIte, K_45, F_45_0, hS, s1, hS1, ad, s2, hS2, w, s3, s4, (eq_true (by simp (disch := omega) only [nI_lit, nI_add, lt_nI, le_nI, eq_nI] <;> omega) : (nI d ≤ (6 : Int32)) = True), List.length_nil, List.length_cons, Nat.zero_le] <;> first | done | decide | omega | fail) | fail) only [B_90_0, e_iload_n_1, e_bipush_6, e_ic_le, e_aload_n_0, e_iconst_2, e_call_2, psh_s, psh_n, Option.bind_some, R_90, T_90_12, B_90_12, G_600, e_call_1, e_iconst_1, e_iadd, e_bipush_41, e_if_ne, e_gotow, T_90_40, B_90_40, kd_sI, ln_sI, hl_sI, gL_sI, gR_sI, kd_sL, ln_sL, hl_sL, gI_sL, gR_sL, kd_sR, ln_sR, hl_sR, gI_sR, gL_sR, kd_cpI, ln_cpI, hl_cpI, gL_cpI, gR_cpI, gI_cpI, gI_sI, gL_sL, gR_sR, St_sI, St_sL, St_cpI, Nat.reduceEqDiff, Nat.reduceAdd, eq_self, false_and, and_false, true_and, and_true, and_self, if_true, if_false, false_or, or_false, true_or, or_true, not_true_eq_false, not_false_eq_true, reduceIte, K_45, F_45_0, s1, hS1, ad, s2, hS2, w, s3, s4, (eq_true (by simp (disch := omega) only [nI_lit, nI_add, lt_nI, le_nI, eq_nI] <;> omega) : (nI d ≤ (6 : Int32)) = True), List.length_nil, List.length_cons, Nat.zero_le]
/-- a name is looked up -/
theorem GC.look {x : Txt} {N : List Int64} {o : Nat} {pre : List (Int32 × Int32)} {q : Qs} {h : MH} (hG : GC x N o pre q h) (hq : qf q = 0) {M : List Int64} {a m : Nat} (hN : NmC a m M h) {μ : Nat} (hμ : 4 < μ) : (nam (tks x (qi q)) = true ∧ fnd M (tkW (tks x (qi q))) < M.length ∧ cal 68 [.ref 45, .ref a] μ h = some (some (.int (nI (fnd M (tkW (tks x (qi q)))))), h)) ∨ (∃ h', cal 68 [.ref 45, .ref a] μ h = some (some (.int (-1)), h') ∧ BC o (qf (bad x (if nam (tks x (qi q)) = false then 2 else 5) q)) (tkS (tks x (qi q))) h' ∧ Sm h h' (WF o) ∧ (nam (tks x (qi q)) = true → ¬ fnd M (tkW (tks x (qi q))) < M.length)) := by
  have e10 : ((1 : Int32) = 0) = False := by simp
  have hS := hG.1
  have hx := hG.2.1.1
  have w := s_Re_isName hS hG.2.2.2.2.2.2 hG.2.2.1 (tks_5 hx (qi q)) (μ := 4) (by omega)
  rw [C_68 45 _ μ h (K_45 hS) (by decide) hμ]
  cases c : nam (tks x (qi q)) with
  | false =>
    right
    rw [c, b2i_f] at w
    obtain ⟨h1, s1, R1, B1, m1⟩ := hG.refuse hq (c := 2) (by decide) (by decide) (μ := 4) (by omega)
    have s1 : cal 57 [.ref 45, .int 2] 4 h = some (none, h1) := s1
    refine ⟨h1, ?_, B1, m1, fun z => by cases z⟩
    simp (disch := first | assumption | exact b2i_01 _ | decide | omega | (simp only [kd_sI, ln_sI, hl_sI, gL_sI, gR_sI, kd_sL, ln_sL, hl_sL, gI_sL, gR_sL, kd_sR, ln_sR, hl_sR, gI_sR, gL_sR, kd_cpI, ln_cpI, hl_cpI, gL_cpI, gR_cpI, gI_cpI, gI_sI, gL_sL, gR_sR, St_sI, St_sL, St_cpI, Nat.reduceEqDiff, Nat.reduceAdd, eq_self, false_and, and_false, true_and, and_true, and_self, if_true, if_false, false_or, or_false, true_or, or_true, not_true_eq_false, not_false_eq_true, reduceIte, K_45, F_45_0, hS, w, s1, List.length_nil, List.length_cons, Nat.zero_le] <;> first | done | decide | omega | fail) | fail) only [B_68_0, e_aload_n_0, e_call_1, psh_s, psh_n, Option.bind_some, e_if_ne, e_iconst_2, e_call_2, e_iconst_m1, R_68, T_68_14, B_68_14, e_aload_n_1, G_600, G_905, e_istore_n_2, clr_i, clr_l, clr_a, clr_n, e_iload_n_2, e_ic_ne, e_iconst_5, e_gotow, T_68_36, B_68_36, kd_sI, ln_sI, hl_sI, gL_sI, gR_sI, kd_sL, ln_sL, hl_sL, gI_sL, gR_sL, kd_sR, ln_sR, hl_sR, gI_sR, gL_sR, kd_cpI, ln_cpI, hl_cpI, gL_cpI, gR_cpI, gI_cpI, gI_sI, gL_sL, gR_sR, St_sI, St_sL, St_cpI, Nat.reduceEqDiff, Nat.reduceAdd, eq_self, false_and, and_false, true_and, and_true, and_self, if_true, if_false, false_or, or_false, true_or, or_true, not_true_eq_false, not_false_eq_true, reduceIte, K_45, F_45_0, w, s1, List.length_nil, List.length_cons, Nat.zero_le]
  | true =>
    rw [c, b2i_t] at w
    have hk : tkK (tks x (qi q)) = 2 := by
      unfold nam at c
      simp only [Bool.and_eq_true, beq_iff_eq] at c
      exact c.1
    have hw := hG.2.2.1.2.2.2.2 hk
    have s0 := s_Na_numberOf (tkW (tks x (qi q))) hN (μ := 4) (by omega)
    unfold fnI at s0
    by_cases d : fnd M (tkW (tks x (qi q))) < M.length
    · left
      rw [if_pos d] at s0
      refine ⟨rfl, d, ?_⟩
      have hM := hN.2.1
      have hM2 := hN.1.2.2.2.2.2
      have n1 : ¬ nI (fnd M (tkW (tks x (qi q)))) = -1 := nI_m1 (by omega)
      simp (disch := first | assumption | exact b2i_01 _ | decide | omega | (simp only [kd_sI, ln_sI, hl_sI, gL_sI, gR_sI, kd_sL, ln_sL, hl_sL, gI_sL, gR_sL, kd_sR, ln_sR, hl_sR, gI_sR, gL_sR, kd_cpI, ln_cpI, hl_cpI, gL_cpI, gR_cpI, gI_cpI, gI_sI, gL_sL, gR_sR, St_sI, St_sL, St_cpI, Nat.reduceEqDiff, Nat.reduceAdd, eq_self, false_and, and_false, true_and, and_true, and_self, if_true, if_false, false_or, or_false, true_or, or_true, not_true_eq_false, not_false_eq_true, reduceIte, K_45, F_45_0, K_43, F_43_0, hS, w, e10, hw, s0, n1, List.length_nil, List.length_cons, Nat.zero_le] <;> first | done | decide | omega | fail) | fail) only [B_68_0, e_aload_n_0, e_call_1, psh_s, psh_n, Option.bind_some, e_if_ne, e_iconst_2, e_call_2, e_iconst_m1, R_68, T_68_14, B_68_14, e_aload_n_1, G_600, G_905, e_istore_n_2, clr_i, clr_l, clr_a, clr_n, e_iload_n_2, e_ic_ne, e_iconst_5, e_gotow, T_68_36, B_68_36, kd_sI, ln_sI, hl_sI, gL_sI, gR_sI, kd_sL, ln_sL, hl_sL, gI_sL, gR_sL, kd_sR, ln_sR, hl_sR, gI_sR, gL_sR, kd_cpI, ln_cpI, hl_cpI, gL_cpI, gR_cpI, gI_cpI, gI_sI, gL_sL, gR_sR, St_sI, St_sL, St_cpI, Nat.reduceEqDiff, Nat.reduceAdd, eq_self, false_and, and_false, true_and, and_true, and_self, if_true, if_false, false_or, or_false, true_or, or_true, not_true_eq_false, not_false_eq_true, reduceIte, K_45, F_45_0, K_43, F_43_0, w, e10, hw, s0, n1, List.length_nil, List.length_cons, Nat.zero_le]
    · right
      rw [if_neg d] at s0
      obtain ⟨h1, s1, R1, B1, m1⟩ := hG.refuse hq (c := 5) (by decide) (by decide) (μ := 4) (by omega)
      have s1 : cal 57 [.ref 45, .int 5] 4 h = some (none, h1) := s1
      refine ⟨h1, ?_, B1, m1, fun _ => d⟩
      simp (disch := first | assumption | exact b2i_01 _ | decide | omega | (simp only [kd_sI, ln_sI, hl_sI, gL_sI, gR_sI, kd_sL, ln_sL, hl_sL, gI_sL, gR_sL, kd_sR, ln_sR, hl_sR, gI_sR, gL_sR, kd_cpI, ln_cpI, hl_cpI, gL_cpI, gR_cpI, gI_cpI, gI_sI, gL_sL, gR_sR, St_sI, St_sL, St_cpI, Nat.reduceEqDiff, Nat.reduceAdd, eq_self, false_and, and_false, true_and, and_true, and_self, if_true, if_false, false_or, or_false, true_or, or_true, not_true_eq_false, not_false_eq_true, reduceIte, K_45, F_45_0, K_43, F_43_0, hS, w, e10, hw, s0, s1, List.length_nil, List.length_cons, Nat.zero_le] <;> first | done | decide | omega | fail) | fail) only [B_68_0, e_aload_n_0, e_call_1, psh_s, psh_n, Option.bind_some, e_if_ne, e_iconst_2, e_call_2, e_iconst_m1, R_68, T_68_14, B_68_14, e_aload_n_1, G_600, G_905, e_istore_n_2, clr_i, clr_l, clr_a, clr_n, e_iload_n_2, e_ic_ne, e_iconst_5, e_gotow, T_68_36, B_68_36, kd_sI, ln_sI, hl_sI, gL_sI, gR_sI, kd_sL, ln_sL, hl_sL, gI_sL, gR_sL, kd_sR, ln_sR, hl_sR, gI_sR, gL_sR, kd_cpI, ln_cpI, hl_cpI, gL_cpI, gR_cpI, gI_cpI, gI_sI, gL_sL, gR_sR, St_sI, St_sL, St_cpI, Nat.reduceEqDiff, Nat.reduceAdd, eq_self, false_and, and_false, true_and, and_true, and_self, if_true, if_false, false_or, or_false, true_or, or_true, not_true_eq_false, not_false_eq_true, reduceIte, K_45, F_45_0, K_43, F_43_0, w, e10, hw, s0, s1, List.length_nil, List.length_cons, Nat.zero_le]
theorem NmC.WF {o : Nat} {h h' : MH} (ho : Oo o) {M : List Int64} {a m : Nat} (hN : NmC a m M h) (s : Sm h h' (WF o)) (ha : a = o + 1 ∨ a = o + 4 ∨ a = o + 8) : NmC a m M h' := by
  refine hN.eq s.1 (s.R ?_) (s.I ?_) (fun j => s.L ?_)
  all_goals (rcases ho with rfl | rfl <;> rcases ha with rfl | rfl | rfl <;> rfl)
/-- a unit -/
theorem pcl_7 {x : Txt} {N : List Int64} {o : Nat} {pre : List (Int32 × Int32)} (ho : Oo o) (hp : PrO pre) {f : Nat} (hP : Pcl x N o pre f 1 80 13) : Pcl x N o pre (f + 1) 7 87 8 := by
  have e10 : ((1 : Int32) = 0) = False := by simp
  intro d q pend c g h μ hd hc hq hm hi hI hG hμ
  have hS := hG.1
  have hx := hG.2.1.1
  have hmu := muN (k := 87) (r := 8) (d := d) rfl (by omega)
  have hms : ms 7 q = 16 * (1602 - qi q) + 0 := rfl
  have o1 := hG.2.2.2.1.2.2.1
  have u1 := hG.2.2.2.1.2.2.2.1
  have u2 := hG.2.2.2.1.2.2.2.2
  have f0 := hG.2.2.2.1.1
  have hI0 := hI
  obtain ⟨p1, ⟨p2, p3, p4, p5⟩, ⟨p6, p7⟩, p8⟩ := hI
  rw [rd_7 hq]
  rw [C_87 45 _ μ h (K_45 hS) (by decide) (by rw [hmu]; exact hμ), hmu]
  unfold rdu
  by_cases c1 : 30 ≤ qo q ∨ 120 ≤ qu q
  · rw [if_pos c1]
    obtain ⟨h1, s1, R1, B1, m1⟩ := hG.refuse hq (c := 2) (by decide) (by decide) (μ := 8 + 8 * (8 - d)) (by omega)
    have s1 : cal 57 [.ref 45, .int 2] (8 + 8 * (8 - d)) h = some (none, h1) := s1
    refine ⟨h1, ?_, R1, m1⟩
    have hS1 := B1.1
    have nz := B1.nz
    by_cases d1 : 30 ≤ qo q
    · simp (disch := first | assumption | exact b2i_01 _ | decide | omega | (simp only [kd_sI, ln_sI, hl_sI, gL_sI, gR_sI, kd_sL, ln_sL, hl_sL, gI_sL, gR_sL, kd_sR, ln_sR, hl_sR, gI_sR, gL_sR, kd_cpI, ln_cpI, hl_cpI, gL_cpI, gR_cpI, gI_cpI, gI_sI, gL_sL, gR_sR, St_sI, St_sL, St_cpI, Nat.reduceEqDiff, Nat.reduceAdd, eq_self, false_and, and_false, true_and, and_true, and_self, if_true, if_false, false_or, or_false, true_or, or_true, not_true_eq_false, not_false_eq_true, reduceIte, K_45, F_45_0, KO_0, KO_1, KO_2, NO_2, KO_3, NO_3, KO_4, KO_5, NO_5, KO_6, NO_6, KO_7, NO_7, KO_8, KO_9, NO_9, KO_10, NO_10, KO_11, NO_11, KO_12, NO_12, KO_13, NO_13, KO_14, NO_14, KO_15, KO_16, NO_16, KO_17, NO_17, KO_18, NO_18, KO_19, NO_19, FO_0_0, FO_0_1, FO_0_2, FO_0_3, FO_0_4, FO_0_5, FO_0_6, FO_0_7, FO_0_8, FO_0_9, FO_0_10, FO_0_11, FO_1_0, FO_4_0, FO_8_0, FO_15_0, FO_15_2, FO_15_3, FO_15_4, Oo_2, Oo_p, hS, o1, u1, u2, ho, s1, hS1, nz, (eq_true (by simp (disch := omega) only [nI_lit, nI_add, lt_nI, le_nI, eq_nI] <;> omega) : ((30 : Int32) ≤ nI (qo q)) = True), List.length_nil, List.length_cons, Nat.zero_le] <;> first | done | decide | omega | fail) | fail) only [B_87_0, e_aload_n_0, G_603, e_bipush_30, e_ic_ge, G_601, G_511, G_105, e_bipush_120, e_ic_lt, e_gotow, T_87_24, B_87_24, e_iconst_2, e_call_2, psh_s, psh_n, Option.bind_some, T_87_29, B_87_29, G_604, e_if_eq, R_87, T_87_37, B_87_37, e_dup_i, e_dup_a, e_iconst_1, e_iadd, P_603, P_105, G_600, G_902, e_iconst_3, e_ic_ne, G_904, e_call_1, e_goto, T_87_101, B_87_101, e_bipush_40, e_iload_n_1, T_87_118, B_87_118, G_500, T_87_146, B_87_146, kd_sI, ln_sI, hl_sI, gL_sI, gR_sI, kd_sL, ln_sL, hl_sL, gI_sL, gR_sL, kd_sR, ln_sR, hl_sR, gI_sR, gL_sR, kd_cpI, ln_cpI, hl_cpI, gL_cpI, gR_cpI, gI_cpI, gI_sI, gL_sL, gR_sR, St_sI, St_sL, St_cpI, Nat.reduceEqDiff, Nat.reduceAdd, eq_self, false_and, and_false, true_and, and_true, and_self, if_true, if_false, false_or, or_false, true_or, or_true, not_true_eq_false, not_false_eq_true, reduceIte, K_45, F_45_0, KO_0, KO_1, KO_2, NO_2, KO_3, NO_3, KO_4, KO_5, NO_5, KO_6, NO_6, KO_7, NO_7, KO_8, KO_9, NO_9, KO_10, NO_10, KO_11, NO_11, KO_12, NO_12, KO_13, NO_13, KO_14, NO_14, KO_15, KO_16, NO_16, KO_17, NO_17, KO_18, NO_18, KO_19, NO_19, FO_0_0, FO_0_1, FO_0_2, FO_0_3, FO_0_4, FO_0_5, FO_0_6, FO_0_7, FO_0_8, FO_0_9, FO_0_10, FO_0_11, FO_1_0, FO_4_0, FO_8_0, FO_15_0, FO_15_2, FO_15_3, FO_15_4, Oo_2, Oo_p, o1, u1, u2, ho, s1, hS1, nz, (eq_true (by simp (disch := omega) only [nI_lit, nI_add, lt_nI, le_nI, eq_nI] <;> omega) : ((30 : Int32) ≤ nI (qo q)) = True), List.length_nil, List.length_cons, Nat.zero_le]
    · simp (disch := first | assumption | exact b2i_01 _ | decide | omega | (simp only [kd_sI, ln_sI, hl_sI, gL_sI, gR_sI, kd_sL, ln_sL, hl_sL, gI_sL, gR_sL, kd_sR, ln_sR, hl_sR, gI_sR, gL_sR, kd_cpI, ln_cpI, hl_cpI, gL_cpI, gR_cpI, gI_cpI, gI_sI, gL_sL, gR_sR, St_sI, St_sL, St_cpI, Nat.reduceEqDiff, Nat.reduceAdd, eq_self, false_and, and_false, true_and, and_true, and_self, if_true, if_false, false_or, or_false, true_or, or_true, not_true_eq_false, not_false_eq_true, reduceIte, K_45, F_45_0, KO_0, KO_1, KO_2, NO_2, KO_3, NO_3, KO_4, KO_5, NO_5, KO_6, NO_6, KO_7, NO_7, KO_8, KO_9, NO_9, KO_10, NO_10, KO_11, NO_11, KO_12, NO_12, KO_13, NO_13, KO_14, NO_14, KO_15, KO_16, NO_16, KO_17, NO_17, KO_18, NO_18, KO_19, NO_19, FO_0_0, FO_0_1, FO_0_2, FO_0_3, FO_0_4, FO_0_5, FO_0_6, FO_0_7, FO_0_8, FO_0_9, FO_0_10, FO_0_11, FO_1_0, FO_4_0, FO_8_0, FO_15_0, FO_15_2, FO_15_3, FO_15_4, Oo_2, Oo_p, hS, o1, u1, u2, ho, s1, hS1, nz, (eq_false (by simp (disch := omega) only [nI_lit, nI_add, lt_nI, le_nI, eq_nI] <;> omega) : ((30 : Int32) ≤ nI (qo q)) = False), (eq_false (by simp (disch := omega) only [nI_lit, nI_add, lt_nI, le_nI, eq_nI] <;> omega) : (nI (qu q) < (120 : Int32)) = False), List.length_nil, List.length_cons, Nat.zero_le] <;> first | done | decide | omega | fail) | fail) only [B_87_0, e_aload_n_0, G_603, e_bipush_30, e_ic_ge, G_601, G_511, G_105, e_bipush_120, e_ic_lt, e_gotow, T_87_24, B_87_24, e_iconst_2, e_call_2, psh_s, psh_n, Option.bind_some, T_87_29, B_87_29, G_604, e_if_eq, R_87, T_87_37, B_87_37, e_dup_i, e_dup_a, e_iconst_1, e_iadd, P_603, P_105, G_600, G_902, e_iconst_3, e_ic_ne, G_904, e_call_1, e_goto, T_87_101, B_87_101, e_bipush_40, e_iload_n_1, T_87_118, B_87_118, G_500, T_87_146, B_87_146, kd_sI, ln_sI, hl_sI, gL_sI, gR_sI, kd_sL, ln_sL, hl_sL, gI_sL, gR_sL, kd_sR, ln_sR, hl_sR, gI_sR, gL_sR, kd_cpI, ln_cpI, hl_cpI, gL_cpI, gR_cpI, gI_cpI, gI_sI, gL_sL, gR_sR, St_sI, St_sL, St_cpI, Nat.reduceEqDiff, Nat.reduceAdd, eq_self, false_and, and_false, true_and, and_true, and_self, if_true, if_false, false_or, or_false, true_or, or_true, not_true_eq_false, not_false_eq_true, reduceIte, K_45, F_45_0, KO_0, KO_1, KO_2, NO_2, KO_3, NO_3, KO_4, KO_5, NO_5, KO_6, NO_6, KO_7, NO_7, KO_8, KO_9, NO_9, KO_10, NO_10, KO_11, NO_11, KO_12, NO_12, KO_13, NO_13, KO_14, NO_14, KO_15, KO_16, NO_16, KO_17, NO_17, KO_18, NO_18, KO_19, NO_19, FO_0_0, FO_0_1, FO_0_2, FO_0_3, FO_0_4, FO_0_5, FO_0_6, FO_0_7, FO_0_8, FO_0_9, FO_0_10, FO_0_11, FO_1_0, FO_4_0, FO_8_0, FO_15_0, FO_15_2, FO_15_3, FO_15_4, Oo_2, Oo_p, o1, u1, u2, ho, s1, hS1, nz, (eq_false (by simp (disch := omega) only [nI_lit, nI_add, lt_nI, le_nI, eq_nI] <;> omega) : ((30 : Int32) ≤ nI (qo q)) = False), (eq_false (by simp (disch := omega) only [nI_lit, nI_add, lt_nI, le_nI, eq_nI] <;> omega) : (nI (qu q) < (120 : Int32)) = False), List.length_nil, List.length_cons, Nat.zero_le]
  · rw [if_neg c1]
    obtain ⟨G1, m1⟩ := hG.unit ho
    have hS1 := G1.1
    have ad1 := nI_1 (qo q)
    have ad2 := nI_1 (qu q)
    have hP1 : PI x N pre pend 0 g (qi q, 0, qu q + 1, qo q + 1, qs q) := by
      refine ⟨p1, ⟨?_, ?_, ?_, ?_⟩, ⟨p6, p7⟩, ?_⟩
      · show nLf pre + nLf (qs q) ≤ qu q + 1; omega
      · show qu q + 1 ≤ 120; omega
      · show qo q + 1 ≤ 30; omega
      · show nLf (qs q) ≤ qo q + 1; omega
      · show nNt (qs q) + pend ≤ 7 * (qo q + 1) + 0; omega
    have run : rn 87 (8 + 8 * (8 - d)) B_87_0 [some (.ref 45), some (.int (nI d))] [] h = rn 87 (8 + 8 * (8 - d)) ([.aload_n 0, .getfield 600, .getfield 902, .iconst 3, .if_icmp .ne 101, .aload_n 0, .getfield 601, .getfield 511, .aload_n 0, .getfield 600, .getfield 904, .invokeinterface 88 2, .aload_n 0, .getfield 600, .invokeinterface 44 1, .goto 146]) [some (.ref 45), some (.int (nI d))] [] (sI (sI h 45 3 (nI (qo q + 1))) (o + 15) 5 (nI (qu q + 1))) := by
      conv => lhs; rw [B_87_0]
      have c30 : ((30 : Int32) ≤ nI (qo q)) = False := (eq_false (by simp (disch := omega) only [nI_lit, nI_add, lt_nI, le_nI, eq_nI] <;> omega) : ((30 : Int32) ≤ nI (qo q)) = False)
      have c120 : (nI (qu q) < (120 : Int32)) = True := (eq_true (by simp (disch := omega) only [nI_lit, nI_add, lt_nI, le_nI, eq_nI] <;> omega) : (nI (qu q) < (120 : Int32)) = True)
      rcases ho with rfl | rfl
      · simp (disch := first | assumption | decide | (simp only [kd_sI, ln_sI, hl_sI, gL_sI, gR_sI, kd_sL, ln_sL, hl_sL, gI_sL, gR_sL, kd_sR, ln_sR, hl_sR, gI_sR, gL_sR, kd_cpI, ln_cpI, hl_cpI, gL_cpI, gR_cpI, gI_cpI, gI_sI, gL_sL, gR_sR, St_sI, St_sL, St_cpI, Nat.reduceEqDiff, Nat.reduceAdd, eq_self, false_and, and_false, true_and, and_true, and_self, if_true, if_false, false_or, or_false, true_or, or_true, not_true_eq_false, not_false_eq_true, reduceIte, K_45, F_45_0, K_3, F_3_0, F_3_1, F_3_2, F_3_3, F_3_4, F_3_5, F_3_6, F_3_7, F_3_8, F_3_9, F_3_10, F_3_11, K_18, F_18_0, F_18_2, F_18_3, F_18_4, hS, o1]; done)) only [e_aload_n_0, G_603, e_bipush_30, e_ic_ge, T_87_24, T_87_29, T_87_37, G_601, G_511, G_105, e_bipush_120, e_ic_lt, B_87_29, B_87_37, G_604, e_if_eq, e_dup_a, e_iconst_1, e_iadd, P_603, P_105, e_gotow, kd_sI, ln_sI, hl_sI, gL_sI, gR_sI, kd_sL, ln_sL, hl_sL, gI_sL, gR_sL, kd_sR, ln_sR, hl_sR, gI_sR, gL_sR, kd_cpI, ln_cpI, hl_cpI, gL_cpI, gR_cpI, gI_cpI, gI_sI, gL_sL, gR_sR, St_sI, St_sL, St_cpI, Nat.reduceEqDiff, Nat.reduceAdd, eq_self, false_and, and_false, true_and, and_true, and_self, if_true, if_false, false_or, or_false, true_or, or_true, not_true_eq_false, not_false_eq_true, reduceIte, K_45, F_45_0, K_3, F_3_0, F_3_1, F_3_2, F_3_3, F_3_4, F_3_5, F_3_6, F_3_7, F_3_8, F_3_9, F_3_10, F_3_11, K_18, F_18_0, F_18_2, F_18_3, F_18_4, o1, u1, u2, f0, ad1, ad2, c30, c120]
      · simp (disch := first | assumption | decide | (simp only [kd_sI, ln_sI, hl_sI, gL_sI, gR_sI, kd_sL, ln_sL, hl_sL, gI_sL, gR_sL, kd_sR, ln_sR, hl_sR, gI_sR, gL_sR, kd_cpI, ln_cpI, hl_cpI, gL_cpI, gR_cpI, gI_cpI, gI_sI, gL_sL, gR_sR, St_sI, St_sL, St_cpI, Nat.reduceEqDiff, Nat.reduceAdd, eq_self, false_and, and_false, true_and, and_true, and_self, if_true, if_false, false_or, or_false, true_or, or_true, not_true_eq_false, not_false_eq_true, reduceIte, K_45, F_45_0, K_23, F_23_0, F_23_1, F_23_2, F_23_3, F_23_4, F_23_5, F_23_6, F_23_7, F_23_8, F_23_9, F_23_10, F_23_11, K_38, F_38_0, F_38_2, F_38_3, F_38_4, hS, o1]; done)) only [e_aload_n_0, G_603, e_bipush_30, e_ic_ge, T_87_24, T_87_29, T_87_37, G_601, G_511, G_105, e_bipush_120, e_ic_lt, B_87_29, B_87_37, G_604, e_if_eq, e_dup_a, e_iconst_1, e_iadd, P_603, P_105, e_gotow, kd_sI, ln_sI, hl_sI, gL_sI, gR_sI, kd_sL, ln_sL, hl_sL, gI_sL, gR_sL, kd_sR, ln_sR, hl_sR, gI_sR, gL_sR, kd_cpI, ln_cpI, hl_cpI, gL_cpI, gR_cpI, gI_cpI, gI_sI, gL_sL, gR_sR, St_sI, St_sL, St_cpI, Nat.reduceEqDiff, Nat.reduceAdd, eq_self, false_and, and_false, true_and, and_true, and_self, if_true, if_false, false_or, or_false, true_or, or_true, not_true_eq_false, not_false_eq_true, reduceIte, K_45, F_45_0, K_23, F_23_0, F_23_1, F_23_2, F_23_3, F_23_4, F_23_5, F_23_6, F_23_7, F_23_8, F_23_9, F_23_10, F_23_11, K_38, F_38_0, F_38_2, F_38_3, F_38_4, o1, u1, u2, f0, ad1, ad2, c30, c120]
    rw [run]
    generalize sI (sI h 45 3 (nI (qo q + 1))) (o + 15) 5 (nI (qu q + 1)) = h1 at G1 m1 hS1
    clear run
    have o1 := G1.2.2.2.1.2.2.1
    have k1 := G1.2.2.1.1
    have k1 : gI h1 43 2 = nI (tkK (tks x (qi q))) := k1
    have hk4 := tks_5 hx (qi q)
    by_cases c2 : tkK (tks x (qi q)) = 3
    · rw [if_pos c2]
      have hv := G1.2.2.1.2.2.2.1 (Or.inl c2)
      have hv : gI h1 43 4 = nI (tkV (tks x (qi q))) := hv
      obtain ⟨p, hpp, ep⟩ := tks_at x hx (qi q)
      have h99 := tkn_num hx hpp (by rw [← ep]; exact c2)
      rw [← ep] at h99
      have a1 := s_Fo_add hS1 ho G1.2.2.2.2.1.1 (hI0.room hx hp (Or.inr (by omega))) (n := tkV (tks x (qi q))) (by omega) (μ := 4) (by omega)
      have a1 : cal 84 [.ref (o + 15), .int (nI (tkV (tks x (qi q))))] 4 h1 = some (none, _) := a1
      obtain ⟨G2, m2⟩ := G1.put ho (a := (0, nI (tkV (tks x (qi q))))) (n := tkV (tks x (qi q))) rfl
      have a2 : cal 88 [.ref (o + 15), .int (nI (tkV (tks x (qi q))))] (8 + 8 * (8 - d)) h1 = some (none, sI (sI h1 (o + 16) (pre.length + (qs (qi q, 0, qu q + 1, qo q + 1, qs q)).length) (nI (tkV (tks x (qi q))))) (o + 15) 1 (nI (pre.length + (qs (qi q, 0, qu q + 1, qo q + 1, qs q)).length + 1))) := by
        rw [C_88 (o + 15) _ _ h1 (KO_15 hS1 ho) (Oo_p 15 ho) (by omega)]
        simp only [B_88_0, e_aload_n_0, e_iload_n_1, e_call_2, psh_s, psh_n, Option.bind_some, R_88, a1, List.length_nil, List.length_cons, Nat.zero_le]
      obtain ⟨h3, s3, G3, m3⟩ := G2.step ho (μ := 8 + 8 * (8 - d)) (by omega)
      refine ⟨h3, ?_, Or.inl ⟨rfl, G3⟩, (m1.trans m2).trans (W43_WF m3)⟩
      have hS2 := G2.1
      rw [c2] at k1
      have k1 : gI h1 43 2 = 3 := k1
      replace s3 : cal 44 [.ref 43] (8 + 8 * (8 - d)) _ = some (none, h3) := s3
      generalize sI (sI h1 (o + 16) (pre.length + (qs (qi q, 0, qu q + 1, qo q + 1, qs q)).length) (nI (tkV (tks x (qi q))))) (o + 15) 1 (nI (pre.length + (qs (qi q, 0, qu q + 1, qo q + 1, qs q)).length + 1)) = h2 at a2 s3 hS2
      have hS := hS1
      simp (disch := first | assumption | exact b2i_01 _ | decide | omega | (simp only [kd_sI, ln_sI, hl_sI, gL_sI, gR_sI, kd_sL, ln_sL, hl_sL, gI_sL, gR_sL, kd_sR, ln_sR, hl_sR, gI_sR, gL_sR, kd_cpI, ln_cpI, hl_cpI, gL_cpI, gR_cpI, gI_cpI, gI_sI, gL_sL, gR_sR, St_sI, St_sL, St_cpI, Nat.reduceEqDiff, Nat.reduceAdd, eq_self, false_and, and_false, true_and, and_true, and_self, if_true, if_false, false_or, or_false, true_or, or_true, not_true_eq_false, not_false_eq_true, reduceIte, K_45, F_45_0, K_43, F_43_0, KO_0, KO_1, KO_2, NO_2, KO_3, NO_3, KO_4, KO_5, NO_5, KO_6, NO_6, KO_7, NO_7, KO_8, KO_9, NO_9, KO_10, NO_10, KO_11, NO_11, KO_12, NO_12, KO_13, NO_13, KO_14, NO_14, KO_15, KO_16, NO_16, KO_17, NO_17, KO_18, NO_18, KO_19, NO_19, FO_0_0, FO_0_1, FO_0_2, FO_0_3, FO_0_4, FO_0_5, FO_0_6, FO_0_7, FO_0_8, FO_0_9, FO_0_10, FO_0_11, FO_1_0, FO_4_0, FO_8_0, FO_15_0, FO_15_2, FO_15_3, FO_15_4, Oo_2, Oo_p, hS, o1, ho, k1, hv, a2, hS2, s3, List.length_nil, List.length_cons, Nat.zero_le] <;> first | done | decide | omega | fail) | fail) only [B_87_0, e_aload_n_0, G_603, e_bipush_30, e_ic_ge, G_601, G_511, G_105, e_bipush_120, e_ic_lt, e_gotow, T_87_24, B_87_24, e_iconst_2, e_call_2, psh_s, psh_n, Option.bind_some, T_87_29, B_87_29, G_604, e_if_eq, R_87, T_87_37, B_87_37, e_dup_i, e_dup_a, e_iconst_1, e_iadd, P_603, P_105, G_600, G_902, e_iconst_3, e_ic_ne, G_904, e_call_1, e_goto, T_87_101, B_87_101, e_bipush_40, e_iload_n_1, T_87_118, B_87_118, G_500, T_87_146, B_87_146, kd_sI, ln_sI, hl_sI, gL_sI, gR_sI, kd_sL, ln_sL, hl_sL, gI_sL, gR_sL, kd_sR, ln_sR, hl_sR, gI_sR, gL_sR, kd_cpI, ln_cpI, hl_cpI, gL_cpI, gR_cpI, gI_cpI, gI_sI, gL_sL, gR_sR, St_sI, St_sL, St_cpI, Nat.reduceEqDiff, Nat.reduceAdd, eq_self, false_and, and_false, true_and, and_true, and_self, if_true, if_false, false_or, or_false, true_or, or_true, not_true_eq_false, not_false_eq_true, reduceIte, K_45, F_45_0, K_43, F_43_0, KO_0, KO_1, KO_2, NO_2, KO_3, NO_3, KO_4, KO_5, NO_5, KO_6, NO_6, KO_7, NO_7, KO_8, KO_9, NO_9, KO_10, NO_10, KO_11, NO_11, KO_12, NO_12, KO_13, NO_13, KO_14, NO_14, KO_15, KO_16, NO_16, KO_17, NO_17, KO_18, NO_18, KO_19, NO_19, FO_0_0, FO_0_1, FO_0_2, FO_0_3, FO_0_4, FO_0_5, FO_0_6, FO_0_7, FO_0_8, FO_0_9, FO_0_10, FO_0_11, FO_1_0, FO_4_0, FO_8_0, FO_15_0, FO_15_2, FO_15_3, FO_15_4, Oo_2, Oo_p, o1, ho, k1, hv, a2, hS2, s3, List.length_nil, List.length_cons, Nat.zero_le]
    · rw [if_neg c2]
      have k3 : ¬ nI (tkK (tks x (qi q))) = 3 := fun z => c2 ((tkK_nI hk4 3 (by omega)).mp z)
      have w := s_Re_isSign hS1 G1.2.2.1 hk4 (c := 40) (by decide) (tks_v hx) (μ := 8 + 8 * (8 - d)) (by omega)
      have w : cal 89 [.ref 45, .int 40] (8 + 8 * (8 - d)) h1 = some (some (.int (b2i (isS (tks x (qi q)) 40))), h1) := w
      by_cases c3 : isS (tks x (qi q)) 40 = true
      · rw [if_pos c3]
        rw [c3, b2i_t] at w
        obtain ⟨h2, s2, R2, m2⟩ := pcl_in ho hP d (qi q, 0, qu q + 1, qo q + 1, qs q) pend 0 g h1 (8 + 8 * (8 - d)) hd rfl (by show 16 * (1602 - qi q) ≤ f; omega) hi hP1 c3 G1 (by omega)
        refine ⟨h2, ?_, ?_, m1.trans m2⟩
        · have hS := hS1
          simp (disch := first | assumption | exact b2i_01 _ | decide | omega | (simp only [kd_sI, ln_sI, hl_sI, gL_sI, gR_sI, kd_sL, ln_sL, hl_sL, gI_sL, gR_sL, kd_sR, ln_sR, hl_sR, gI_sR, gL_sR, kd_cpI, ln_cpI, hl_cpI, gL_cpI, gR_cpI, gI_cpI, gI_sI, gL_sL, gR_sR, St_sI, St_sL, St_cpI, Nat.reduceEqDiff, Nat.reduceAdd, eq_self, false_and, and_false, true_and, and_true, and_self, if_true, if_false, false_or, or_false, true_or, or_true, not_true_eq_false, not_false_eq_true, reduceIte, K_45, F_45_0, K_43, F_43_0, KO_0, KO_1, KO_2, NO_2, KO_3, NO_3, KO_4, KO_5, NO_5, KO_6, NO_6, KO_7, NO_7, KO_8, KO_9, NO_9, KO_10, NO_10, KO_11, NO_11, KO_12, NO_12, KO_13, NO_13, KO_14, NO_14, KO_15, KO_16, NO_16, KO_17, NO_17, KO_18, NO_18, KO_19, NO_19, FO_0_0, FO_0_1, FO_0_2, FO_0_3, FO_0_4, FO_0_5, FO_0_6, FO_0_7, FO_0_8, FO_0_9, FO_0_10, FO_0_11, FO_1_0, FO_4_0, FO_8_0, FO_15_0, FO_15_2, FO_15_3, FO_15_4, Oo_2, Oo_p, hS, o1, ho, k1, k3, w, e10, s2, List.length_nil, List.length_cons, Nat.zero_le] <;> first | done | decide | omega | fail) | fail) only [B_87_0, e_aload_n_0, G_603, e_bipush_30, e_ic_ge, G_601, G_511, G_105, e_bipush_120, e_ic_lt, e_gotow, T_87_24, B_87_24, e_iconst_2, e_call_2, psh_s, psh_n, Option.bind_some, T_87_29, B_87_29, G_604, e_if_eq, R_87, T_87_37, B_87_37, e_dup_i, e_dup_a, e_iconst_1, e_iadd, P_603, P_105, G_600, G_902, e_iconst_3, e_ic_ne, G_904, e_call_1, e_goto, T_87_101, B_87_101, e_bipush_40, e_iload_n_1, T_87_118, B_87_118, G_500, T_87_146, B_87_146, kd_sI, ln_sI, hl_sI, gL_sI, gR_sI, kd_sL, ln_sL, hl_sL, gI_sL, gR_sL, kd_sR, ln_sR, hl_sR, gI_sR, gL_sR, kd_cpI, ln_cpI, hl_cpI, gL_cpI, gR_cpI, gI_cpI, gI_sI, gL_sL, gR_sR, St_sI, St_sL, St_cpI, Nat.reduceEqDiff, Nat.reduceAdd, eq_self, false_and, and_false, true_and, and_true, and_self, if_true, if_false, false_or, or_false, true_or, or_true, not_true_eq_false, not_false_eq_true, reduceIte, K_45, F_45_0, K_43, F_43_0, KO_0, KO_1, KO_2, NO_2, KO_3, NO_3, KO_4, KO_5, NO_5, KO_6, NO_6, KO_7, NO_7, KO_8, KO_9, NO_9, KO_10, NO_10, KO_11, NO_11, KO_12, NO_12, KO_13, NO_13, KO_14, NO_14, KO_15, KO_16, NO_16, KO_17, NO_17, KO_18, NO_18, KO_19, NO_19, FO_0_0, FO_0_1, FO_0_2, FO_0_3, FO_0_4, FO_0_5, FO_0_6, FO_0_7, FO_0_8, FO_0_9, FO_0_10, FO_0_11, FO_1_0, FO_4_0, FO_8_0, FO_15_0, FO_15_2, FO_15_3, FO_15_4, Oo_2, Oo_p, o1, ho, k1, k3, w, e10, s2, List.length_nil, List.length_cons, Nat.zero_le]
        · have hb : RdC x N o pre (if 6 < d then bad x 2 (qi q, 0, qu q + 1, qo q + 1, qs q) else if ¬ qf (rd x N f 1 (d + 1) (qi q + 1, 0, qu q + 1, qo q + 1, qs q)) = 0 then rd x N f 1 (d + 1) (qi q + 1, 0, qu q + 1, qo q + 1, qs q) else if isS (tks x (qi (rd x N f 1 (d + 1) (qi q + 1, 0, qu q + 1, qo q + 1, qs q)))) 41 = true then stq (rd x N f 1 (d + 1) (qi q + 1, 0, qu q + 1, qo q + 1, qs q)) else bad x 2 (rd x N f 1 (d + 1) (qi q + 1, 0, qu q + 1, qo q + 1, qs q))) h2 := R2
          by_cases c4 : 6 < d
          · rw [if_pos c4] at hb ⊢
            rcases hb with ⟨z, -⟩ | ⟨-, B⟩
            · exact absurd z (bad_nz (by decide) _)
            · exact Or.inr ⟨bad_nz (by decide) q, B⟩
          · rw [if_neg c4] at hb ⊢
            exact hb
      · rw [if_neg c3]
        rw [show isS (tks x (qi q)) 40 = false from Bool.eq_false_iff.mpr c3, b2i_f] at w
        rcases G1.look rfl G1.2.2.2.2.2.1 (μ := 8 + 8 * (8 - d)) (by omega) with ⟨l1, l2, l3⟩ | ⟨h2, l1, B2, m2, l2⟩
        · have l1 : nam (tks x (qi q)) = true := l1
          have l2 : fnd N (tkW (tks x (qi q))) < N.length := l2
          have l3 : cal 68 [.ref 45, .ref (o + 1)] (8 + 8 * (8 - d)) h1 = some (some (.int (nI (fnd N (tkW (tks x (qi q)))))), h1) := l3
          rw [if_neg (by rw [l1]; decide), if_pos l2]
          have hN4 := hG.2.2.2.2.2.1.2.1
          have e1 : (10000 : Int32) + nI (fnd N (tkW (tks x (qi q)))) = nI (10000 + fnd N (tkW (tks x (qi q)))) := by rw [nI_lit, nI_add]
          have a1 := s_Fo_add hS1 ho G1.2.2.2.2.1.1 (hI0.room hx hp (Or.inr (by omega))) (n := 10000 + fnd N (tkW (tks x (qi q)))) (by omega) (μ := 4) (by omega)
          obtain ⟨G2, m2⟩ := G1.put ho (a := (1, nI (fnd N (tkW (tks x (qi q)))))) (n := 10000 + fnd N (tkW (tks x (qi q)))) (by rw [← e1]; rfl)
          have a2 : cal 91 [.ref (o + 15), .int (nI (fnd N (tkW (tks x (qi q)))))] (8 + 8 * (8 - d)) h1 = some (none, sI (sI h1 (o + 16) (pre.length + (qs (qi q, 0, qu q + 1, qo q + 1, qs q)).length) (nI (10000 + fnd N (tkW (tks x (qi q)))))) (o + 15) 1 (nI (pre.length + (qs (qi q, 0, qu q + 1, qo q + 1, qs q)).length + 1))) := by
            rw [C_91 (o + 15) _ _ h1 (KO_15 hS1 ho) (Oo_p 15 ho) (by omega)]
            simp only [B_91_0, e_aload_n_0, e_sipush_10000, e_iload_n_1, e_iadd, e_call_2, psh_s, psh_n, Option.bind_some, R_91, e1, a1, List.length_nil, List.length_cons, Nat.zero_le]
          obtain ⟨h3, s3, G3, m3⟩ := G2.step ho (μ := 8 + 8 * (8 - d)) (by omega)
          refine ⟨h3, ?_, Or.inl ⟨rfl, G3⟩, (m1.trans m2).trans (W43_WF m3)⟩
          have hS2 := G2.1
          generalize sI (sI h1 (o + 16) (pre.length + (qs (qi q, 0, qu q + 1, qo q + 1, qs q)).length) (nI (10000 + fnd N (tkW (tks x (qi q)))))) (o + 15) 1 (nI (pre.length + (qs (qi q, 0, qu q + 1, qo q + 1, qs q)).length + 1)) = h2 at a2 s3 hS2
          have hS := hS1
          simp (disch := first | assumption | exact b2i_01 _ | decide | omega | (simp only [kd_sI, ln_sI, hl_sI, gL_sI, gR_sI, kd_sL, ln_sL, hl_sL, gI_sL, gR_sL, kd_sR, ln_sR, hl_sR, gI_sR, gL_sR, kd_cpI, ln_cpI, hl_cpI, gL_cpI, gR_cpI, gI_cpI, gI_sI, gL_sL, gR_sR, St_sI, St_sL, St_cpI, Nat.reduceEqDiff, Nat.reduceAdd, eq_self, false_and, and_false, true_and, and_true, and_self, if_true, if_false, false_or, or_false, true_or, or_true, not_true_eq_false, not_false_eq_true, reduceIte, K_45, F_45_0, K_43, F_43_0, KO_0, KO_1, KO_2, NO_2, KO_3, NO_3, KO_4, KO_5, NO_5, KO_6, NO_6, KO_7, NO_7, KO_8, KO_9, NO_9, KO_10, NO_10, KO_11, NO_11, KO_12, NO_12, KO_13, NO_13, KO_14, NO_14, KO_15, KO_16, NO_16, KO_17, NO_17, KO_18, NO_18, KO_19, NO_19, FO_0_0, FO_0_1, FO_0_2, FO_0_3, FO_0_4, FO_0_5, FO_0_6, FO_0_7, FO_0_8, FO_0_9, FO_0_10, FO_0_11, FO_1_0, FO_4_0, FO_8_0, FO_15_0, FO_15_2, FO_15_3, FO_15_4, Oo_2, Oo_p, hS, o1, ho, k1, k3, w, l3, a2, hS2, s3, List.length_nil, List.length_cons, Nat.zero_le] <;> first | done | decide | omega | fail) | fail) only [B_87_0, e_aload_n_0, G_603, e_bipush_30, e_ic_ge, G_601, G_511, G_105, e_bipush_120, e_ic_lt, e_gotow, T_87_24, B_87_24, e_iconst_2, e_call_2, psh_s, psh_n, Option.bind_some, T_87_29, B_87_29, G_604, e_if_eq, R_87, T_87_37, B_87_37, e_dup_i, e_dup_a, e_iconst_1, e_iadd, P_603, P_105, G_600, G_902, e_iconst_3, e_ic_ne, G_904, e_call_1, e_goto, T_87_101, B_87_101, e_bipush_40, e_iload_n_1, T_87_118, B_87_118, G_500, T_87_146, B_87_146, kd_sI, ln_sI, hl_sI, gL_sI, gR_sI, kd_sL, ln_sL, hl_sL, gI_sL, gR_sL, kd_sR, ln_sR, hl_sR, gI_sR, gL_sR, kd_cpI, ln_cpI, hl_cpI, gL_cpI, gR_cpI, gI_cpI, gI_sI, gL_sL, gR_sR, St_sI, St_sL, St_cpI, Nat.reduceEqDiff, Nat.reduceAdd, eq_self, false_and, and_false, true_and, and_true, and_self, if_true, if_false, false_or, or_false, true_or, or_true, not_true_eq_false, not_false_eq_true, reduceIte, K_45, F_45_0, K_43, F_43_0, KO_0, KO_1, KO_2, NO_2, KO_3, NO_3, KO_4, KO_5, NO_5, KO_6, NO_6, KO_7, NO_7, KO_8, KO_9, NO_9, KO_10, NO_10, KO_11, NO_11, KO_12, NO_12, KO_13, NO_13, KO_14, NO_14, KO_15, KO_16, NO_16, KO_17, NO_17, KO_18, NO_18, KO_19, NO_19, FO_0_0, FO_0_1, FO_0_2, FO_0_3, FO_0_4, FO_0_5, FO_0_6, FO_0_7, FO_0_8, FO_0_9, FO_0_10, FO_0_11, FO_1_0, FO_4_0, FO_8_0, FO_15_0, FO_15_2, FO_15_3, FO_15_4, Oo_2, Oo_p, o1, ho, k1, k3, w, l3, a2, hS2, s3, List.length_nil, List.length_cons, Nat.zero_le]
        · have l1 : cal 68 [.ref 45, .ref (o + 1)] (8 + 8 * (8 - d)) h1 = some (some (.int (-1)), h2) := l1
          obtain ⟨h3, s3, B3, m3⟩ := B2.addtr ho (-1) (μ := 8 + 8 * (8 - d)) (by omega)
          have hS2 := B2.1
          have hS3 := B3.1
          have s4 := s_Ta_stop hS3 B3.2.1.2.2.1 (μ := 8 + 8 * (8 - d)) (by omega)
          refine ⟨h3, ?_, ?_, (m1.trans m2).trans m3⟩
          · have hS := hS1
            simp (disch := first | assumption | exact b2i_01 _ | decide | omega | (simp only [kd_sI, ln_sI, hl_sI, gL_sI, gR_sI, kd_sL, ln_sL, hl_sL, gI_sL, gR_sL, kd_sR, ln_sR, hl_sR, gI_sR, gL_sR, kd_cpI, ln_cpI, hl_cpI, gL_cpI, gR_cpI, gI_cpI, gI_sI, gL_sL, gR_sR, St_sI, St_sL, St_cpI, Nat.reduceEqDiff, Nat.reduceAdd, eq_self, false_and, and_false, true_and, and_true, and_self, if_true, if_false, false_or, or_false, true_or, or_true, not_true_eq_false, not_false_eq_true, reduceIte, K_45, F_45_0, K_43, F_43_0, KO_0, KO_1, KO_2, NO_2, KO_3, NO_3, KO_4, KO_5, NO_5, KO_6, NO_6, KO_7, NO_7, KO_8, KO_9, NO_9, KO_10, NO_10, KO_11, NO_11, KO_12, NO_12, KO_13, NO_13, KO_14, NO_14, KO_15, KO_16, NO_16, KO_17, NO_17, KO_18, NO_18, KO_19, NO_19, FO_0_0, FO_0_1, FO_0_2, FO_0_3, FO_0_4, FO_0_5, FO_0_6, FO_0_7, FO_0_8, FO_0_9, FO_0_10, FO_0_11, FO_1_0, FO_4_0, FO_8_0, FO_15_0, FO_15_2, FO_15_3, FO_15_4, Oo_2, Oo_p, hS, o1, ho, k1, k3, w, l1, hS2, s3, hS3, s4, List.length_nil, List.length_cons, Nat.zero_le] <;> first | done | decide | omega | fail) | fail) only [B_87_0, e_aload_n_0, G_603, e_bipush_30, e_ic_ge, G_601, G_511, G_105, e_bipush_120, e_ic_lt, e_gotow, T_87_24, B_87_24, e_iconst_2, e_call_2, psh_s, psh_n, Option.bind_some, T_87_29, B_87_29, G_604, e_if_eq, R_87, T_87_37, B_87_37, e_dup_i, e_dup_a, e_iconst_1, e_iadd, P_603, P_105, G_600, G_902, e_iconst_3, e_ic_ne, G_904, e_call_1, e_goto, T_87_101, B_87_101, e_bipush_40, e_iload_n_1, T_87_118, B_87_118, G_500, T_87_146, B_87_146, kd_sI, ln_sI, hl_sI, gL_sI, gR_sI, kd_sL, ln_sL, hl_sL, gI_sL, gR_sL, kd_sR, ln_sR, hl_sR, gI_sR, gL_sR, kd_cpI, ln_cpI, hl_cpI, gL_cpI, gR_cpI, gI_cpI, gI_sI, gL_sL, gR_sR, St_sI, St_sL, St_cpI, Nat.reduceEqDiff, Nat.reduceAdd, eq_self, false_and, and_false, true_and, and_true, and_self, if_true, if_false, false_or, or_false, true_or, or_true, not_true_eq_false, not_false_eq_true, reduceIte, K_45, F_45_0, K_43, F_43_0, KO_0, KO_1, KO_2, NO_2, KO_3, NO_3, KO_4, KO_5, NO_5, KO_6, NO_6, KO_7, NO_7, KO_8, KO_9, NO_9, KO_10, NO_10, KO_11, NO_11, KO_12, NO_12, KO_13, NO_13, KO_14, NO_14, KO_15, KO_16, NO_16, KO_17, NO_17, KO_18, NO_18, KO_19, NO_19, FO_0_0, FO_0_1, FO_0_2, FO_0_3, FO_0_4, FO_0_5, FO_0_6, FO_0_7, FO_0_8, FO_0_9, FO_0_10, FO_0_11, FO_1_0, FO_4_0, FO_8_0, FO_15_0, FO_15_2, FO_15_3, FO_15_4, Oo_2, Oo_p, o1, ho, k1, k3, w, l1, hS2, s3, hS3, s4, List.length_nil, List.length_cons, Nat.zero_le]
          · have B3 : BC o (qf (bad x (if nam (tks x (qi q)) = false then 2 else 5) q)) (tkS (tks x (qi q))) h3 := B3
            by_cases c4 : nam (tks x (qi q)) = false
            · rw [if_pos c4] at B3 ⊢
              exact Or.inr ⟨bad_nz (by decide) q, B3⟩
            · rw [if_neg c4] at B3 ⊢
              have l2 : nam (tks x (qi q)) = true → ¬ fnd N (tkW (tks x (qi q))) < N.length := l2
              rw [if_neg (l2 (by simpa using c4))]
              exact Or.inr ⟨bad_nz (by decide) q, B3⟩
/-- all levels -/
theorem pcl_all {x : Txt} {N : List Int64} {o : Nat} {pre : List (Int32 × Int32)} (ho : Oo o) (hp : PrO pre) : ∀ f, Pcl x N o pre f 7 87 8 ∧ Pcl x N o pre f 6 86 9 ∧ Pcl x N o pre f 5 85 10 ∧ Pcl x N o pre f 3 82 11 ∧ Pcl x N o pre f 2 81 12 ∧ Pcl x N o pre f 1 80 13 := by
  have all : ∀ f, ∀ f', f' ≤ f → Pcl x N o pre f' 7 87 8 ∧ Pcl x N o pre f' 6 86 9 ∧ Pcl x N o pre f' 5 85 10 ∧ Pcl x N o pre f' 3 82 11 ∧ Pcl x N o pre f' 2 81 12 ∧ Pcl x N o pre f' 1 80 13 := by
    intro f
    induction f with
    | zero =>
      intro f' hf
      obtain rfl : f' = 0 := by omega
      refine ⟨?_, ?_, ?_, ?_, ?_, ?_⟩ <;> (intro d q pend c g h μ _ _ _ hm; omega)
    | succ f ih =>
      intro f' hf
      by_cases c : f' ≤ f
      · exact ih f' c
      · obtain rfl : f' = f + 1 := by omega
        have e := ih f (Nat.le_refl _)
        exact ⟨pcl_7 ho hp e.2.2.2.2.2, pcl_6 ho hp (fun f' h => (ih f' h).1), pcl_5 ho hp (fun f' h => (ih f' h).2.1), pcl_3 ho hp e.2.2.1 e.2.2.2.1, pcl_2 ho hp (fun f' h => (ih f' h).2.2.2.1), pcl_1 ho hp (fun f' h => (ih f' h).2.2.2.2.1)⟩
  exact fun f => all f f (Nat.le_refl _)
