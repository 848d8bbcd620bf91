theorem i16_nI2 {s : Nat} (hs : s < 32768) : (nI s).toInt16.toInt32 = nI s := by
  have : ∀ i j k : Fin 32, (nI (i.val * 1024 + j.val * 32 + k.val)).toInt16.toInt32 = nI (i.val * 1024 + j.val * 32 + k.val) := by decide +kernel
  have := this ⟨s / 1024, by omega⟩ ⟨s / 32 % 32, by omega⟩ ⟨s % 32, by omega⟩
  rwa [show s / 1024 * 1024 + s / 32 % 32 * 32 + s % 32 = s by omega] at this
theorem lp_Ca_paidByAll {o p t : Nat} {L : LD} {x : Int32} (ht : t < 3) : ∀ m i h, QI o p L h → i + m = dN L → ∃ h', rn 180 6 B_180_5 [some (.ref 46), some (.int (nI t)), some (.int x), some (.int (nI (ps L t x i))), some (.int (nI i))] [] h = some (some (.int (nI (ps L t x (dN L)))), h') ∧ Mm o p L h h' := by
  intro m
  induction m with
  | zero =>
    intro i h hI hi
    have hS := hI.1.1; have hB := hI.1.2.1; have hC := hI.1.2.2.1; have hM := hI.2.1; have hs := hI.2.2; have ho := hC.1.1; have hl := hC.1.2.1; have hl2 := hC.1.2.2.1; have hl3 := hC.1.2.2.2; have cT := hC.2.1.1; have cR := hC.2.1.2.1; have cC := hC.2.1.2.2.1; have cN := hC.2.1.2.2.2; have mT := hM.1.1; have mR := hM.1.2.1; have mC := hM.1.2.2.1; have mN := hM.1.2.2.2; have hb := hB.1; have e10 : ((1 : Int32) = 0) = False := by simp
    obtain rfl : i = dN L := by omega
    refine ⟨h, ?_, Mm.rf hI⟩
    rw [B_180_5]
    simp (disch := first | assumption | exact b2i_01 _ | decide | omega | (simp only [kd_sI, ln_sI, hl_sI, gL_sI, gR_sI, kd_sL, ln_sL, hl_sL, gI_sL, gR_sL, kd_sR, ln_sR, hl_sR, gI_sR, gL_sR, kd_cpI, ln_cpI, hl_cpI, gL_cpI, gR_cpI, gI_cpI, gI_sI, gL_sL, gR_sR, St_sI, St_sL, St_cpI, Nat.reduceEqDiff, Nat.reduceAdd, eq_self, false_and, and_false, true_and, and_true, and_self, if_true, if_false, false_or, or_false, true_or, or_true, not_true_eq_false, not_false_eq_true, reduceIte, K_46, F_46_2, F_46_3, F_46_4, F_46_5, F_46_6, F_46_7, hS, cN, (eq_true (by simp (disch := omega) only [nI_lit, nI_add, lt_nI, le_nI, eq_nI] <;> omega) : (nI (dN L) ≤ nI (dN L)) = True)] <;> first | done | decide | omega | fail) | fail) only [B_180_0, e_iconst_0, e_istore_n_3, clr_i, clr_l, clr_a, clr_n, e_istore_4, e_gotow, T_180_5, e_iload_4, e_aload_n_0, G_1, e_ic_ge, e_iload_n_3, e_iload_n_1, e_iload_n_2, e_call_4, psh_s, psh_n, Option.bind_some, e_call_2, e_iadd, e_iinc_4_1, e_goto, T_180_35, B_180_35, R_180, kd_sI, ln_sI, hl_sI, gL_sI, gR_sI, kd_sL, ln_sL, hl_sL, gI_sL, gR_sL, kd_sR, ln_sR, hl_sR, gI_sR, gL_sR, kd_cpI, ln_cpI, hl_cpI, gL_cpI, gR_cpI, gI_cpI, gI_sI, gL_sL, gR_sR, St_sI, St_sL, St_cpI, Nat.reduceEqDiff, Nat.reduceAdd, eq_self, false_and, and_false, true_and, and_true, and_self, if_true, if_false, false_or, or_false, true_or, or_true, not_true_eq_false, not_false_eq_true, reduceIte, K_46, F_46_2, F_46_3, F_46_4, F_46_5, F_46_6, F_46_7, cN, (eq_true (by simp (disch := omega) only [nI_lit, nI_add, lt_nI, le_nI, eq_nI] <;> omega) : (nI (dN L) ≤ nI (dN L)) = True)]
  | succ m ih =>
    intro i h hI hi
    have hS := hI.1.1; have hB := hI.1.2.1; have hC := hI.1.2.2.1; have hM := hI.2.1; have hs := hI.2.2; have ho := hC.1.1; have hl := hC.1.2.1; have hl2 := hC.1.2.2.1; have hl3 := hC.1.2.2.2; have cT := hC.2.1.1; have cR := hC.2.1.2.1; have cC := hC.2.1.2.2.1; have cN := hC.2.1.2.2.2; have mT := hM.1.1; have mR := hM.1.2.1; have mC := hM.1.2.2.1; have mN := hM.1.2.2.2; have hb := hB.1; have e10 : ((1 : Int32) = 0) = False := by simp
    obtain ⟨h1, e1, m1⟩ := q_out hI x ht (show i < dN L by omega) (μ := 6) (by omega)
    obtain ⟨h2, e3, m2⟩ := ih (i + 1) h1 m1.2 (by omega)
    refine ⟨h2, ?_, m1.trans m2⟩
    have e2 := s_JM_max (h := h1) (μ := 6) (x := fol L x t i) (y := 0) (by omega)
    rw [show (if fol L x t i < 0 then 0 else fol L x t i) = pay L x t i from rfl, (payN_s hB x t i).2] at e2
    have ad : nI (ps L t x i) + nI (payN L x t i) = nI (ps L t x i + payN L x t i) := nI_add _ _
    rw [show ps L t x (i + 1) = ps L t x i + payN L x t i from rfl] at e3
    rw [B_180_5]
    simp (disch := first | assumption | exact b2i_01 _ | decide | omega | (simp only [kd_sI, ln_sI, hl_sI, gL_sI, gR_sI, kd_sL, ln_sL, hl_sL, gI_sL, gR_sL, kd_sR, ln_sR, hl_sR, gI_sR, gL_sR, kd_cpI, ln_cpI, hl_cpI, gL_cpI, gR_cpI, gI_cpI, gI_sI, gL_sL, gR_sR, St_sI, St_sL, St_cpI, Nat.reduceEqDiff, Nat.reduceAdd, eq_self, false_and, and_false, true_and, and_true, and_self, if_true, if_false, false_or, or_false, true_or, or_true, not_true_eq_false, not_false_eq_true, reduceIte, K_46, F_46_2, F_46_3, F_46_4, F_46_5, F_46_6, F_46_7, hS, cN, (eq_false (by simp (disch := omega) only [nI_lit, nI_add, lt_nI, le_nI, eq_nI] <;> omega) : (nI (dN L) ≤ nI i) = False), e1, e2, ad, e3, nI_1, List.length_nil, List.length_cons, Nat.zero_le] <;> first | done | decide | omega | fail) | fail) only [B_180_0, e_iconst_0, e_istore_n_3, clr_i, clr_l, clr_a, clr_n, e_istore_4, e_gotow, T_180_5, e_iload_4, e_aload_n_0, G_1, e_ic_ge, e_iload_n_3, e_iload_n_1, e_iload_n_2, e_call_4, psh_s, psh_n, Option.bind_some, e_call_2, e_iadd, e_iinc_4_1, e_goto, T_180_35, B_180_35, R_180, kd_sI, ln_sI, hl_sI, gL_sI, gR_sI, kd_sL, ln_sL, hl_sL, gI_sL, gR_sL, kd_sR, ln_sR, hl_sR, gI_sR, gL_sR, kd_cpI, ln_cpI, hl_cpI, gL_cpI, gR_cpI, gI_cpI, gI_sI, gL_sL, gR_sR, St_sI, St_sL, St_cpI, Nat.reduceEqDiff, Nat.reduceAdd, eq_self, false_and, and_false, true_and, and_true, and_self, if_true, if_false, false_or, or_false, true_or, or_true, not_true_eq_false, not_false_eq_true, reduceIte, K_46, F_46_2, F_46_3, F_46_4, F_46_5, F_46_6, F_46_7, cN, (eq_false (by simp (disch := omega) only [nI_lit, nI_add, lt_nI, le_nI, eq_nI] <;> omega) : (nI (dN L) ≤ nI i) = False), e1, e2, ad, e3, nI_1, List.length_nil, List.length_cons, Nat.zero_le]
theorem s_Ca_paidByAll {o p t : Nat} {L : LD} {h : MH} (hI : QI o p L h) (x : Int32) (ht : t < 3) {μ : Nat} (hμ : 6 < μ) : ∃ h', cal 180 [.ref 46, .int (nI t), .int x] μ h = some (some (.int (nI (ps L t x (dN L)))), h') ∧ Mm o p L h h' := by
  have hS := hI.1.1
  obtain ⟨h1, e1, m1⟩ := lp_Ca_paidByAll (x := x) ht (dN L) 0 h hI (by omega)
  refine ⟨h1, ?_, m1⟩
  rw [C_180 46 _ _ μ _ (K_46 hS) (by decide) hμ]
  simp (disch := first | assumption | exact b2i_01 _ | decide | omega | (simp only [kd_sI, ln_sI, hl_sI, gL_sI, gR_sI, kd_sL, ln_sL, hl_sL, gI_sL, gR_sL, kd_sR, ln_sR, hl_sR, gI_sR, gL_sR, kd_cpI, ln_cpI, hl_cpI, gL_cpI, gR_cpI, gI_cpI, gI_sI, gL_sL, gR_sR, St_sI, St_sL, St_cpI, Nat.reduceEqDiff, Nat.reduceAdd, eq_self, false_and, and_false, true_and, and_true, and_self, if_true, if_false, false_or, or_false, true_or, or_true, not_true_eq_false, not_false_eq_true, reduceIte, K_46, F_46_2, F_46_3, F_46_4, F_46_5, F_46_6, F_46_7, hS] <;> first | done | decide | omega | fail) | fail) only [B_180_0, e_iconst_0, e_istore_n_3, clr_i, clr_l, clr_a, clr_n, e_istore_4, e_gotow, T_180_5, e_iload_4, e_aload_n_0, G_1, e_ic_ge, e_iload_n_3, e_iload_n_1, e_iload_n_2, e_call_4, psh_s, psh_n, Option.bind_some, e_call_2, e_iadd, e_iinc_4_1, e_goto, T_180_35, B_180_35, R_180, kd_sI, ln_sI, hl_sI, gL_sI, gR_sI, kd_sL, ln_sL, hl_sL, gI_sL, gR_sL, kd_sR, ln_sR, hl_sR, gI_sR, gL_sR, kd_cpI, ln_cpI, hl_cpI, gL_cpI, gR_cpI, gI_cpI, gI_sI, gL_sL, gR_sR, St_sI, St_sL, St_cpI, Nat.reduceEqDiff, Nat.reduceAdd, eq_self, false_and, and_false, true_and, and_true, and_self, if_true, if_false, false_or, or_false, true_or, or_true, not_true_eq_false, not_false_eq_true, reduceIte, K_46, F_46_2, F_46_3, F_46_4, F_46_5, F_46_6, F_46_7]
  exact e1
/-- what is noted of sets -/
def Nt (L : LD) (t a : Nat) (h : MH) : Prop := ∀ s, s < 4096 → gI h (a + 2) s = -1 ∨ gI h (a + 2) s = nI (ps L t (nI s) (dN L))
theorem s_Se_paidByAll {o p a t s : Nat} {L : LD} {h : MH} (hI : QI o p L h) (hO : SeO a h) (hN : Nt L t a h) (ht : t < 3) (hs4 : s < 4096) {μ : Nat} (hμ : 7 < μ) : ∃ h', cal 179 [.ref a, .ref 46, .int (nI t), .int (nI s)] μ h = some (some (.int (nI (ps L t (nI s) (dN L)))), h') ∧ SA o p L a h h' ∧ Nt L t a h' := by
  have hO0 := hO
  have hS := hI.1.1
  have hB := hI.1.2.1
  obtain ⟨q1, q2, q3, -, ⟨b1, b2, b3⟩, -⟩ := hO
  have ha2 : 2 ≤ a := by omega
  have ha3 : 2 ≤ a + 2 := by omega
  have bs : inBd (nI s) 4096 = true := inBd_nI (by omega) (by omega)
  have ts := tc_nI (show s < 2147483648 by omega)
  have w1 := nI_nneg (show s < 2147483648 by omega)
  have w2 : (nI s < 4096) = True := by rw [show (4096 : Int32) = nI 4096 from rfl, lt_nI (by omega) (by omega)]; exact eq_true hs4
  have hle := ps_le hB (t := t) (x := nI s) (dN L)
  have hb := hB.1
  by_cases c : gI h (a + 2) s = -1
  · obtain ⟨h1, e1, m1⟩ := s_Ca_paidByAll hI (nI s) ht (μ := 7) (by omega)
    have sa1 : SA o p L a h h1 := SA.mm m1
    have hS1 := m1.2.1.1
    have k2 : kd h1 (a + 2) = 22 := by rw [sa1.kde]; exact b2
    have l2 : ln h1 (a + 2) = 4096 := by rw [sa1.lne]; exact b3
    have g2 : gR h1 a 1 = .ref (a + 2) := by rw [(sa1.2.1 a 1 (by omega)).2.1]; exact b1
    have kA : kd h1 a = 7 := by rw [sa1.kde]; exact q3
    have i16 := i16_nI2 (s := ps L t (nI s) (dN L)) (by omega)
    refine ⟨sI h1 (a + 2) s (nI (ps L t (nI s) (dN L))), ?_, sa1.sI q2 (by omega) (by omega), fun x hx => ?_⟩
    · rw [C_179 a _ _ _ μ h q3 ha2 hμ]
      simp (disch := first | assumption | exact b2i_01 _ | decide | omega | (simp only [kd_sI, ln_sI, hl_sI, gL_sI, gR_sI, kd_sL, ln_sL, hl_sL, gI_sL, gR_sL, kd_sR, ln_sR, hl_sR, gI_sR, gL_sR, kd_cpI, ln_cpI, hl_cpI, gL_cpI, gR_cpI, gI_cpI, gI_sI, gL_sL, gR_sR, St_sI, St_sL, St_cpI, Nat.reduceEqDiff, Nat.reduceAdd, eq_self, false_and, and_false, true_and, and_true, and_self, if_true, if_false, false_or, or_false, true_or, or_true, not_true_eq_false, not_false_eq_true, reduceIte, K_46, F_46_2, F_46_3, F_46_4, F_46_5, F_46_6, F_46_7, hS, hS1, q3, ha2, ha3, b1, b2, b3, bs, ts, w1, w2, c, e1, i16, k2, l2, g2, kA, List.length_nil, List.length_cons, Nat.zero_le] <;> first | done | decide | omega | fail) | fail) only [B_179_0, e_iload_n_3, e_if_lt, e_sipush_4096, e_ic_lt, e_gotow, T_179_11, B_179_11, e_iconst_0, R_179, T_179_13, B_179_13, e_aload_n_0, G_701, e_saload, e_iconst_m1, e_ic_ne, e_aload_n_1, e_iload_n_2, e_call_3, psh_s, psh_n, Option.bind_some, e_i2s, e_sastore, T_179_36, B_179_36, kd_sI, ln_sI, hl_sI, gL_sI, gR_sI, kd_sL, ln_sL, hl_sL, gI_sL, gR_sL, kd_sR, ln_sR, hl_sR, gI_sR, gL_sR, kd_cpI, ln_cpI, hl_cpI, gL_cpI, gR_cpI, gI_cpI, gI_sI, gL_sL, gR_sR, St_sI, St_sL, St_cpI, Nat.reduceEqDiff, Nat.reduceAdd, eq_self, false_and, and_false, true_and, and_true, and_self, if_true, if_false, false_or, or_false, true_or, or_true, not_true_eq_false, not_false_eq_true, reduceIte, K_46, F_46_2, F_46_3, F_46_4, F_46_5, F_46_6, F_46_7, hS1, q3, ha2, ha3, b1, b2, b3, bs, ts, w1, w2, c, e1, i16, k2, l2, g2, kA, List.length_nil, List.length_cons, Nat.zero_le]
    · rw [gI_sI]
      by_cases d : x = s
      · rw [if_pos ⟨rfl, d⟩, d]; exact Or.inr rfl
      · rw [if_neg (fun z => d z.2), m1.1.I (wr_52 (by omega))]; exact hN x hx
  · have c2 := (hN s hs4).resolve_left c
    refine ⟨h, ?_, SA.rf hI, hN⟩
    rw [c2] at c
    rw [C_179 a _ _ _ μ h q3 ha2 hμ]
    simp (disch := first | assumption | exact b2i_01 _ | decide | omega | (simp only [kd_sI, ln_sI, hl_sI, gL_sI, gR_sI, kd_sL, ln_sL, hl_sL, gI_sL, gR_sL, kd_sR, ln_sR, hl_sR, gI_sR, gL_sR, kd_cpI, ln_cpI, hl_cpI, gL_cpI, gR_cpI, gI_cpI, gI_sI, gL_sL, gR_sR, St_sI, St_sL, St_cpI, Nat.reduceEqDiff, Nat.reduceAdd, eq_self, false_and, and_false, true_and, and_true, and_self, if_true, if_false, false_or, or_false, true_or, or_true, not_true_eq_false, not_false_eq_true, reduceIte, K_46, F_46_2, F_46_3, F_46_4, F_46_5, F_46_6, F_46_7, hS, q3, ha2, b1, b2, b3, bs, ts, w1, w2, c, c2, List.length_nil, List.length_cons, Nat.zero_le] <;> first | done | decide | omega | fail) | fail) only [B_179_0, e_iload_n_3, e_if_lt, e_sipush_4096, e_ic_lt, e_gotow, T_179_11, B_179_11, e_iconst_0, R_179, T_179_13, B_179_13, e_aload_n_0, G_701, e_saload, e_iconst_m1, e_ic_ne, e_aload_n_1, e_iload_n_2, e_call_3, psh_s, psh_n, Option.bind_some, e_i2s, e_sastore, T_179_36, B_179_36, kd_sI, ln_sI, hl_sI, gL_sI, gR_sI, kd_sL, ln_sL, hl_sL, gI_sL, gR_sL, kd_sR, ln_sR, hl_sR, gI_sR, gL_sR, kd_cpI, ln_cpI, hl_cpI, gL_cpI, gR_cpI, gI_cpI, gI_sI, gL_sL, gR_sR, St_sI, St_sL, St_cpI, Nat.reduceEqDiff, Nat.reduceAdd, eq_self, false_and, and_false, true_and, and_true, and_self, if_true, if_false, false_or, or_false, true_or, or_true, not_true_eq_false, not_false_eq_true, reduceIte, K_46, F_46_2, F_46_3, F_46_4, F_46_5, F_46_6, F_46_7, q3, ha2, b1, b2, b3, bs, ts, w1, w2, c, c2, List.length_nil, List.length_cons, Nat.zero_le]
def chI (q : Option Nat) : Int32 := match q with
  | none => -1
  | some c => nI c
/-- one turn more, if the turns behind are so -/
theorem lp_Se_play {o p a t n s : Nat} {L : LD} {most : Bool} {mm : Nat} (hB : LawB L) (ht : t < 3) (hmm : dMem L t = nI mm) (hmm2 : mm < 2 ^ dC L) (hn : n ≤ 3) (hs4 : s < 2 ^ dC L)
    (ih : ∀ (s : Nat) (h : MH), s < 2 ^ dC L → QI o p L h → SeO a h → Nt L t a h → ∃ h', cal 178 [.ref a, .ref 46, .int (nI t), .int (nI s), .int (nI n), .int (b2i !most)] (9 + n) h = some (some (.int (nI (gm L t n (!most) (nI s)).1)), h') ∧ SA o p L a h h' ∧ Nt L t a h') : ∀ m c h (l10 l11 : Option Value), c + m = 12 → QI o p L h → SeO a h → Nt L t a h → ∃ h', rn 178 (9 + n) B_178_53 [some (.ref a), some (.ref 46), some (.int (nI t)), some (.int (nI s)), some (.int (nI (n + 1))), some (.int (b2i most)), some (.int (dMem L t &&& (nI s ^^^ -1))), some (.int (chI (clS (fun c => tbt (dMem L t) c && !tbt (nI s) c) (fun c => (gm L t n (!most) (nI s ||| one c)).1) (gm L t n (!most) (nI s)).1 most c).2)), some (.int (nI (clS (fun c => tbt (dMem L t) c && !tbt (nI s) c) (fun c => (gm L t n (!most) (nI s ||| one c)).1) (gm L t n (!most) (nI s)).1 most c).1)), some (.int (nI c)), l10, l11] [] h = some (some (.int (nI (clS (fun c => tbt (dMem L t) c && !tbt (nI s) c) (fun c => (gm L t n (!most) (nI s ||| one c)).1) (gm L t n (!most) (nI s)).1 most 12).1)), h') ∧ SA o p L a h h' ∧ Nt L t a h' ∧ gI h' a 6 = chI (clS (fun c => tbt (dMem L t) c && !tbt (nI s) c) (fun c => (gm L t n (!most) (nI s ||| one c)).1) (gm L t n (!most) (nI s)).1 most 12).2 := by
  obtain ⟨cl, ecl⟩ : ∃ cl, cl = clS (fun c => tbt (dMem L t) c && !tbt (nI s) c) (fun c => (gm L t n (!most) (nI s ||| one c)).1) (gm L t n (!most) (nI s)).1 most := ⟨_, rfl⟩
  have h12 := pw12 hB.1.2.2.1
  have hcl : ∀ c, (cl c).1 ≤ 25344 := fun c => by rw [ecl]; exact clS_le (gm_le hB n _ _) (fun c => gm_le hB n _ _) c
  have hch : ∀ c x, (cl c).2 = some x → x < c := fun c x => by rw [ecl]; exact clS_ch c x
  have hstep : ∀ c, cl (c + 1) = if (tbt (dMem L t) c && !tbt (nI s) c) = true ∧ (bt most (gm L t n (!most) (nI s ||| one c)).1 (cl c).1 = true ∨ (gm L t n (!most) (nI s ||| one c)).1 = (cl c).1 ∧ (cl c).2 = none) then ((gm L t n (!most) (nI s ||| one c)).1, some c) else cl c := fun c => by rw [ecl]; rfl
  rw [← ecl]
  intro m
  induction m with
  | zero =>
    intro c h l10 l11 hc hI hO hN
    have hO0 := hO
    have hS := hI.1.1
    obtain ⟨q1, q2, q3, -⟩ := hO
    have ha2 : 2 ≤ a := by omega
    obtain rfl : c = 12 := by omega
    refine ⟨sI h a 6 (chI (cl 12).2), ?_, (SA.rf hI).sI q2 (by omega) (by omega), fun x hx => ?_, ?_⟩
    · rw [B_178_53]
      simp (disch := first | assumption | exact b2i_01 _ | decide | omega | (simp only [kd_sI, ln_sI, hl_sI, gL_sI, gR_sI, kd_sL, ln_sL, hl_sL, gI_sL, gR_sL, kd_sR, ln_sR, hl_sR, gI_sR, gL_sR, kd_cpI, ln_cpI, hl_cpI, gL_cpI, gR_cpI, gI_cpI, gI_sI, gL_sL, gR_sR, St_sI, St_sL, St_cpI, Nat.reduceEqDiff, Nat.reduceAdd, eq_self, false_and, and_false, true_and, and_true, and_self, if_true, if_false, false_or, or_false, true_or, or_true, not_true_eq_false, not_false_eq_true, reduceIte, K_46, F_46_2, F_46_3, F_46_4, F_46_5, F_46_6, F_46_7, hS, q3, ha2, (eq_true (by simp (disch := omega) only [nI_lit, nI_add, lt_nI, le_nI, eq_nI] <;> omega) : ((12 : Int32) ≤ nI 12) = True)] <;> first | done | decide | omega | fail) | fail) only [B_178_0, e_iload_4, e_if_gt, e_aload_n_0, e_aload_n_1, e_iload_n_2, e_iload_n_3, e_call_4, psh_s, psh_n, Option.bind_some, R_178, T_178_13, B_178_13, e_call_2, e_iconst_m1, e_ixor, e_iand, e_istore_6, clr_i, clr_l, clr_a, clr_n, e_istore_7, e_iconst_1, e_isub, e_iload_5, e_if_ne, e_goto, T_178_44, B_178_44, e_iconst_0, e_gotow, T_178_45, B_178_45, e_call_6, e_istore_8, e_istore_9, T_178_53, e_iload_9, e_bipush_12, e_ic_ge, e_iload_6, e_ishr, e_if_eq, e_ishl, e_ior, T_178_92, B_178_92, T_178_93, B_178_93, e_istore_10, e_iload_10, e_iload_8, e_ic_le, T_178_114, B_178_114, T_178_118, B_178_118, T_178_129, B_178_129, T_178_130, B_178_130, e_istore_11, e_iload_11, e_ic_ne, e_iload_7, T_178_150, B_178_150, T_178_158, B_178_158, e_iinc_9_1, T_178_164, B_178_164, P_706, kd_sI, ln_sI, hl_sI, gL_sI, gR_sI, kd_sL, ln_sL, hl_sL, gI_sL, gR_sL, kd_sR, ln_sR, hl_sR, gI_sR, gL_sR, kd_cpI, ln_cpI, hl_cpI, gL_cpI, gR_cpI, gI_cpI, gI_sI, gL_sL, gR_sR, St_sI, St_sL, St_cpI, Nat.reduceEqDiff, Nat.reduceAdd, eq_self, false_and, and_false, true_and, and_true, and_self, if_true, if_false, false_or, or_false, true_or, or_true, not_true_eq_false, not_false_eq_true, reduceIte, K_46, F_46_2, F_46_3, F_46_4, F_46_5, F_46_6, F_46_7, q3, ha2, (eq_true (by simp (disch := omega) only [nI_lit, nI_add, lt_nI, le_nI, eq_nI] <;> omega) : ((12 : Int32) ≤ nI 12) = True)]
    · rw [gI_sI, if_neg (by omega)]; exact hN x hx
    · rw [gI_sI, if_pos ⟨rfl, rfl⟩]
  | succ m ihm =>
    intro c h l10 l11 hc hI hO hN
    have hO0 := hO
    have hS := hI.1.1
    obtain ⟨q1, q2, q3, -⟩ := hO
    have ha2 : 2 ≤ a := by omega
    have br := bit_rest (mm := dMem L t) (b := nI s) (show c < 32 by omega)
    have br2 : bit (dMem L t &&& (nI s ^^^ -1)) c = 0 ↔ (tbt (dMem L t) c && !tbt (nI s) c) = false := by
      rw [br, bit_0 _ (by omega), bit_1 _ (by omega)]
      cases tbt (dMem L t) c <;> cases tbt (nI s) c <;> simp
    have e10 : ((1 : Int32) = 0) = False := by simp
    rw [B_178_53]
    cases cd : (tbt (dMem L t) c && !tbt (nI s) c)
    · have z := br2.mpr cd
      unfold bit at z
      have st := hstep c
      rw [cd, if_neg (fun w => absurd w.1 (by decide))] at st
      obtain ⟨h2, g, r⟩ := ihm (c + 1) h l10 l11 (by omega) hI hO0 hN
      rw [st] at g
      refine ⟨h2, ?_, r⟩
      simp (disch := first | assumption | exact b2i_01 _ | decide | omega | (simp only [kd_sI, ln_sI, hl_sI, gL_sI, gR_sI, kd_sL, ln_sL, hl_sL, gI_sL, gR_sL, kd_sR, ln_sR, hl_sR, gI_sR, gL_sR, kd_cpI, ln_cpI, hl_cpI, gL_cpI, gR_cpI, gI_cpI, gI_sI, gL_sL, gR_sR, St_sI, St_sL, St_cpI, Nat.reduceEqDiff, Nat.reduceAdd, eq_self, false_and, and_false, true_and, and_true, and_self, if_true, if_false, false_or, or_false, true_or, or_true, not_true_eq_false, not_false_eq_true, reduceIte, K_46, F_46_2, F_46_3, F_46_4, F_46_5, F_46_6, F_46_7, hS, (eq_false (by simp (disch := omega) only [nI_lit, nI_add, lt_nI, le_nI, eq_nI] <;> omega) : ((12 : Int32) ≤ nI c) = False), z, nI_1, g] <;> first | done | decide | omega | fail) | fail) only [B_178_0, e_iload_4, e_if_gt, e_aload_n_0, e_aload_n_1, e_iload_n_2, e_iload_n_3, e_call_4, psh_s, psh_n, Option.bind_some, R_178, T_178_13, B_178_13, e_call_2, e_iconst_m1, e_ixor, e_iand, e_istore_6, clr_i, clr_l, clr_a, clr_n, e_istore_7, e_iconst_1, e_isub, e_iload_5, e_if_ne, e_goto, T_178_44, B_178_44, e_iconst_0, e_gotow, T_178_45, B_178_45, e_call_6, e_istore_8, e_istore_9, T_178_53, e_iload_9, e_bipush_12, e_ic_ge, e_iload_6, e_ishr, e_if_eq, e_ishl, e_ior, T_178_92, B_178_92, T_178_93, B_178_93, e_istore_10, e_iload_10, e_iload_8, e_ic_le, T_178_114, B_178_114, T_178_118, B_178_118, T_178_129, B_178_129, T_178_130, B_178_130, e_istore_11, e_iload_11, e_ic_ne, e_iload_7, T_178_150, B_178_150, T_178_158, B_178_158, e_iinc_9_1, T_178_164, B_178_164, P_706, kd_sI, ln_sI, hl_sI, gL_sI, gR_sI, kd_sL, ln_sL, hl_sL, gI_sL, gR_sL, kd_sR, ln_sR, hl_sR, gI_sR, gL_sR, kd_cpI, ln_cpI, hl_cpI, gL_cpI, gR_cpI, gI_cpI, gI_sI, gL_sL, gR_sR, St_sI, St_sL, St_cpI, Nat.reduceEqDiff, Nat.reduceAdd, eq_self, false_and, and_false, true_and, and_true, and_self, if_true, if_false, false_or, or_false, true_or, or_true, not_true_eq_false, not_false_eq_true, reduceIte, K_46, F_46_2, F_46_3, F_46_4, F_46_5, F_46_6, F_46_7, (eq_false (by simp (disch := omega) only [nI_lit, nI_add, lt_nI, le_nI, eq_nI] <;> omega) : ((12 : Int32) ≤ nI c) = False), z, nI_1, g]
    · have z : ¬ bit (dMem L t &&& (nI s ^^^ -1)) c = 0 := fun w => by
        have := br2.mp w
        rw [cd] at this
        cases this
      unfold bit at z
      have hcC : c < dC L := by
        rcases Nat.lt_or_ge c (dC L) with w | w
        · exact w
        · rw [hmm, tbt_lt hmm2 w, Bool.false_and] at cd
          cases cd
      obtain ⟨s', hs', es'⟩ := or_lt hB hs4 hcC
      obtain ⟨h1, e1, sa1, nt1⟩ := ih s' h hs' hI hO0 hN
      rw [← es'] at e1
      obtain ⟨w, ew⟩ : ∃ w, w = (gm L t n (!most) (nI s ||| one c)).1 := ⟨_, rfl⟩
      have hw : w ≤ 25344 := by rw [ew]; exact gm_le hB n _ _
      rw [← ew] at e1
      have st := hstep c
      rw [cd, ← ew] at st
      unfold one at e1
      have hS1 := sa1.2.2.1.1
      have sb1 := sub1_nI (n := n + 1) (by omega)
      rw [Nat.add_sub_cancel] at sb1
      have hcl1 := hcl c
      have u1 := le_nI (a := w) (b := (cl c).1) (by omega) (by omega)
      have u2 := le_nI (a := (cl c).1) (b := w) (by omega) (by omega)
      have u3 := eq_nI (a := w) (b := (cl c).1) (by omega) (by omega)
      have tk : ∀ l11', (cl (c + 1) = (w, some c)) → ∃ h', rn 178 (9 + n) B_178_53 [some (.ref a), some (.ref 46), some (.int (nI t)), some (.int (nI s)), some (.int (nI (n + 1))), some (.int (b2i most)), some (.int (dMem L t &&& (nI s ^^^ -1))), some (.int (nI c)), some (.int (nI w)), some (.int (nI (c + 1))), some (.int (nI w)), l11'] [] h1 = some (some (.int (nI (cl 12).1)), h') ∧ SA o p L a h h' ∧ Nt L t a h' ∧ gI h' a 6 = chI (cl 12).2 := by
        intro l11' e
        obtain ⟨h2, g, r1, r2, r3⟩ := ihm (c + 1) h1 (some (.int (nI w))) l11' (by omega) sa1.2.2 (sa1.seo hO0) nt1
        rw [e] at g
        exact ⟨h2, g, sa1.trans r1, r2, r3⟩
      have sk : ∀ l11', (cl (c + 1) = cl c) → ∃ h', rn 178 (9 + n) B_178_53 [some (.ref a), some (.ref 46), some (.int (nI t)), some (.int (nI s)), some (.int (nI (n + 1))), some (.int (b2i most)), some (.int (dMem L t &&& (nI s ^^^ -1))), some (.int (chI (cl c).2)), some (.int (nI (cl c).1)), some (.int (nI (c + 1))), some (.int (nI w)), l11'] [] h1 = some (some (.int (nI (cl 12).1)), h') ∧ SA o p L a h h' ∧ Nt L t a h' ∧ gI h' a 6 = chI (cl 12).2 := by
        intro l11' e
        obtain ⟨h2, g, r1, r2, r3⟩ := ihm (c + 1) h1 (some (.int (nI w))) l11' (by omega) sa1.2.2 (sa1.seo hO0) nt1
        rw [e] at g
        exact ⟨h2, g, sa1.trans r1, r2, r3⟩
      have chn1 : (chI (cl c).2 = -1) ↔ (cl c).2 = none := by
        cases e : (cl c).2 with
        | none => simp [chI]
        | some x =>
          have := hch c x e
          constructor
          · intro q
            exfalso
            have : nI x < 0 := by rw [show nI x = -1 from q]; decide
            exact nI_pos (by omega) this
          · intro q; cases q
      have ltt : ∀ (b : Bool), (b = true) → b2i b = 1 := fun b e => by rw [e]; rfl
      cases most
      · rw [show (!false) = true from rfl, b2i_t] at e1
        unfold bt at st
        simp only [Bool.false_eq_true, if_false, decide_eq_true_eq, true_and] at st
        by_cases d1 : w < (cl c).1
        · have st' : cl (c + 1) = (w, some c) := by rw [st, if_pos (Or.inl d1)]
          obtain ⟨h2, g, r⟩ := tk (some (.int 1)) st'
          refine ⟨h2, ?_, r⟩
          have u2' : (nI (cl c).1 ≤ nI w) = False := u2.trans (eq_false (by omega))
          rw [b2i_f] at g ⊢
          simp (disch := first | assumption | exact b2i_01 _ | decide | omega | (simp only [kd_sI, ln_sI, hl_sI, gL_sI, gR_sI, kd_sL, ln_sL, hl_sL, gI_sL, gR_sL, kd_sR, ln_sR, hl_sR, gI_sR, gL_sR, kd_cpI, ln_cpI, hl_cpI, gL_cpI, gR_cpI, gI_cpI, gI_sI, gL_sL, gR_sR, St_sI, St_sL, St_cpI, Nat.reduceEqDiff, Nat.reduceAdd, eq_self, false_and, and_false, true_and, and_true, and_self, if_true, if_false, false_or, or_false, true_or, or_true, not_true_eq_false, not_false_eq_true, reduceIte, K_46, F_46_2, F_46_3, F_46_4, F_46_5, F_46_6, F_46_7, hS, hS1, (eq_false (by simp (disch := omega) only [nI_lit, nI_add, lt_nI, le_nI, eq_nI] <;> omega) : ((12 : Int32) ≤ nI c) = False), z, sb1, e1, u2', e10, nI_1, g, List.length_nil, List.length_cons, Nat.zero_le] <;> first | done | decide | omega | fail) | fail) only [B_178_0, e_iload_4, e_if_gt, e_aload_n_0, e_aload_n_1, e_iload_n_2, e_iload_n_3, e_call_4, psh_s, psh_n, Option.bind_some, R_178, T_178_13, B_178_13, e_call_2, e_iconst_m1, e_ixor, e_iand, e_istore_6, clr_i, clr_l, clr_a, clr_n, e_istore_7, e_iconst_1, e_isub, e_iload_5, e_if_ne, e_goto, T_178_44, B_178_44, e_iconst_0, e_gotow, T_178_45, B_178_45, e_call_6, e_istore_8, e_istore_9, T_178_53, e_iload_9, e_bipush_12, e_ic_ge, e_iload_6, e_ishr, e_if_eq, e_ishl, e_ior, T_178_92, B_178_92, T_178_93, B_178_93, e_istore_10, e_iload_10, e_iload_8, e_ic_le, T_178_114, B_178_114, T_178_118, B_178_118, T_178_129, B_178_129, T_178_130, B_178_130, e_istore_11, e_iload_11, e_ic_ne, e_iload_7, T_178_150, B_178_150, T_178_158, B_178_158, e_iinc_9_1, T_178_164, B_178_164, P_706, kd_sI, ln_sI, hl_sI, gL_sI, gR_sI, kd_sL, ln_sL, hl_sL, gI_sL, gR_sL, kd_sR, ln_sR, hl_sR, gI_sR, gL_sR, kd_cpI, ln_cpI, hl_cpI, gL_cpI, gR_cpI, gI_cpI, gI_sI, gL_sL, gR_sR, St_sI, St_sL, St_cpI, Nat.reduceEqDiff, Nat.reduceAdd, eq_self, false_and, and_false, true_and, and_true, and_self, if_true, if_false, false_or, or_false, true_or, or_true, not_true_eq_false, not_false_eq_true, reduceIte, K_46, F_46_2, F_46_3, F_46_4, F_46_5, F_46_6, F_46_7, hS1, (eq_false (by simp (disch := omega) only [nI_lit, nI_add, lt_nI, le_nI, eq_nI] <;> omega) : ((12 : Int32) ≤ nI c) = False), z, sb1, e1, u2', e10, nI_1, g, List.length_nil, List.length_cons, Nat.zero_le]
        · have u2' : (nI (cl c).1 ≤ nI w) = True := u2.trans (eq_true (by omega))
          by_cases d2 : w = (cl c).1
          · have u3' : (nI w = nI (cl c).1) = True := u3.trans (eq_true d2)
            by_cases d3 : (cl c).2 = none
            · have st' : cl (c + 1) = (w, some c) := by rw [st, if_pos (Or.inr ⟨d2, d3⟩)]
              obtain ⟨h2, g, r⟩ := tk (some (.int 0)) st'
              refine ⟨h2, ?_, r⟩
              have d4 := chn1.mpr d3
              rw [b2i_f] at g ⊢
              rw [d4]
              rw [← d2] at u2' ⊢
              simp (disch := first | assumption | exact b2i_01 _ | decide | omega | (simp only [kd_sI, ln_sI, hl_sI, gL_sI, gR_sI, kd_sL, ln_sL, hl_sL, gI_sL, gR_sL, kd_sR, ln_sR, hl_sR, gI_sR, gL_sR, kd_cpI, ln_cpI, hl_cpI, gL_cpI, gR_cpI, gI_cpI, gI_sI, gL_sL, gR_sR, St_sI, St_sL, St_cpI, Nat.reduceEqDiff, Nat.reduceAdd, eq_self, false_and, and_false, true_and, and_true, and_self, if_true, if_false, false_or, or_false, true_or, or_true, not_true_eq_false, not_false_eq_true, reduceIte, K_46, F_46_2, F_46_3, F_46_4, F_46_5, F_46_6, F_46_7, hS, hS1, (eq_false (by simp (disch := omega) only [nI_lit, nI_add, lt_nI, le_nI, eq_nI] <;> omega) : ((12 : Int32) ≤ nI c) = False), z, sb1, e1, u2', e10, nI_1, g, List.length_nil, List.length_cons, Nat.zero_le] <;> first | done | decide | omega | fail) | fail) only [B_178_0, e_iload_4, e_if_gt, e_aload_n_0, e_aload_n_1, e_iload_n_2, e_iload_n_3, e_call_4, psh_s, psh_n, Option.bind_some, R_178, T_178_13, B_178_13, e_call_2, e_iconst_m1, e_ixor, e_iand, e_istore_6, clr_i, clr_l, clr_a, clr_n, e_istore_7, e_iconst_1, e_isub, e_iload_5, e_if_ne, e_goto, T_178_44, B_178_44, e_iconst_0, e_gotow, T_178_45, B_178_45, e_call_6, e_istore_8, e_istore_9, T_178_53, e_iload_9, e_bipush_12, e_ic_ge, e_iload_6, e_ishr, e_if_eq, e_ishl, e_ior, T_178_92, B_178_92, T_178_93, B_178_93, e_istore_10, e_iload_10, e_iload_8, e_ic_le, T_178_114, B_178_114, T_178_118, B_178_118, T_178_129, B_178_129, T_178_130, B_178_130, e_istore_11, e_iload_11, e_ic_ne, e_iload_7, T_178_150, B_178_150, T_178_158, B_178_158, e_iinc_9_1, T_178_164, B_178_164, P_706, kd_sI, ln_sI, hl_sI, gL_sI, gR_sI, kd_sL, ln_sL, hl_sL, gI_sL, gR_sL, kd_sR, ln_sR, hl_sR, gI_sR, gL_sR, kd_cpI, ln_cpI, hl_cpI, gL_cpI, gR_cpI, gI_cpI, gI_sI, gL_sL, gR_sR, St_sI, St_sL, St_cpI, Nat.reduceEqDiff, Nat.reduceAdd, eq_self, false_and, and_false, true_and, and_true, and_self, if_true, if_false, false_or, or_false, true_or, or_true, not_true_eq_false, not_false_eq_true, reduceIte, K_46, F_46_2, F_46_3, F_46_4, F_46_5, F_46_6, F_46_7, hS1, (eq_false (by simp (disch := omega) only [nI_lit, nI_add, lt_nI, le_nI, eq_nI] <;> omega) : ((12 : Int32) ≤ nI c) = False), z, sb1, e1, u2', e10, nI_1, g, List.length_nil, List.length_cons, Nat.zero_le]
            · have st' : cl (c + 1) = cl c := by rw [st, if_neg (fun y => y.elim d1 (fun y => d3 y.2))]
              obtain ⟨h2, g, r⟩ := sk (some (.int 0)) st'
              refine ⟨h2, ?_, r⟩
              have d4 : ¬ chI (cl c).2 = -1 := fun y => d3 (chn1.mp y)
              rw [b2i_f] at g ⊢
              rw [← d2] at u2' g ⊢
              simp (disch := first | assumption | exact b2i_01 _ | decide | omega | (simp only [kd_sI, ln_sI, hl_sI, gL_sI, gR_sI, kd_sL, ln_sL, hl_sL, gI_sL, gR_sL, kd_sR, ln_sR, hl_sR, gI_sR, gL_sR, kd_cpI, ln_cpI, hl_cpI, gL_cpI, gR_cpI, gI_cpI, gI_sI, gL_sL, gR_sR, St_sI, St_sL, St_cpI, Nat.reduceEqDiff, Nat.reduceAdd, eq_self, false_and, and_false, true_and, and_true, and_self, if_true, if_false, false_or, or_false, true_or, or_true, not_true_eq_false, not_false_eq_true, reduceIte, K_46, F_46_2, F_46_3, F_46_4, F_46_5, F_46_6, F_46_7, hS, hS1, (eq_false (by simp (disch := omega) only [nI_lit, nI_add, lt_nI, le_nI, eq_nI] <;> omega) : ((12 : Int32) ≤ nI c) = False), z, sb1, e1, u2', d4, e10, nI_1, g, List.length_nil, List.length_cons, Nat.zero_le] <;> first | done | decide | omega | fail) | fail) only [B_178_0, e_iload_4, e_if_gt, e_aload_n_0, e_aload_n_1, e_iload_n_2, e_iload_n_3, e_call_4, psh_s, psh_n, Option.bind_some, R_178, T_178_13, B_178_13, e_call_2, e_iconst_m1, e_ixor, e_iand, e_istore_6, clr_i, clr_l, clr_a, clr_n, e_istore_7, e_iconst_1, e_isub, e_iload_5, e_if_ne, e_goto, T_178_44, B_178_44, e_iconst_0, e_gotow, T_178_45, B_178_45, e_call_6, e_istore_8, e_istore_9, T_178_53, e_iload_9, e_bipush_12, e_ic_ge, e_iload_6, e_ishr, e_if_eq, e_ishl, e_ior, T_178_92, B_178_92, T_178_93, B_178_93, e_istore_10, e_iload_10, e_iload_8, e_ic_le, T_178_114, B_178_114, T_178_118, B_178_118, T_178_129, B_178_129, T_178_130, B_178_130, e_istore_11, e_iload_11, e_ic_ne, e_iload_7, T_178_150, B_178_150, T_178_158, B_178_158, e_iinc_9_1, T_178_164, B_178_164, P_706, kd_sI, ln_sI, hl_sI, gL_sI, gR_sI, kd_sL, ln_sL, hl_sL, gI_sL, gR_sL, kd_sR, ln_sR, hl_sR, gI_sR, gL_sR, kd_cpI, ln_cpI, hl_cpI, gL_cpI, gR_cpI, gI_cpI, gI_sI, gL_sL, gR_sR, St_sI, St_sL, St_cpI, Nat.reduceEqDiff, Nat.reduceAdd, eq_self, false_and, and_false, true_and, and_true, and_self, if_true, if_false, false_or, or_false, true_or, or_true, not_true_eq_false, not_false_eq_true, reduceIte, K_46, F_46_2, F_46_3, F_46_4, F_46_5, F_46_6, F_46_7, hS1, (eq_false (by simp (disch := omega) only [nI_lit, nI_add, lt_nI, le_nI, eq_nI] <;> omega) : ((12 : Int32) ≤ nI c) = False), z, sb1, e1, u2', d4, e10, nI_1, g, List.length_nil, List.length_cons, Nat.zero_le]
          · have st' : cl (c + 1) = cl c := by rw [st, if_neg (fun y => y.elim d1 (fun y => d2 y.1))]
            have u3' : (nI w = nI (cl c).1) = False := u3.trans (eq_false d2)
            obtain ⟨h2, g, r⟩ := sk (some (.int 0)) st'
            refine ⟨h2, ?_, r⟩
            rw [b2i_f] at g ⊢
            simp (disch := first | assumption | exact b2i_01 _ | decide | omega | (simp only [kd_sI, ln_sI, hl_sI, gL_sI, gR_sI, kd_sL, ln_sL, hl_sL, gI_sL, gR_sL, kd_sR, ln_sR, hl_sR, gI_sR, gL_sR, kd_cpI, ln_cpI, hl_cpI, gL_cpI, gR_cpI, gI_cpI, gI_sI, gL_sL, gR_sR, St_sI, St_sL, St_cpI, Nat.reduceEqDiff, Nat.reduceAdd, eq_self, false_and, and_false, true_and, and_true, and_self, if_true, if_false, false_or, or_false, true_or, or_true, not_true_eq_false, not_false_eq_true, reduceIte, K_46, F_46_2, F_46_3, F_46_4, F_46_5, F_46_6, F_46_7, hS, hS1, (eq_false (by simp (disch := omega) only [nI_lit, nI_add, lt_nI, le_nI, eq_nI] <;> omega) : ((12 : Int32) ≤ nI c) = False), z, sb1, e1, u2', u3', e10, nI_1, g, List.length_nil, List.length_cons, Nat.zero_le] <;> first | done | decide | omega | fail) | fail) only [B_178_0, e_iload_4, e_if_gt, e_aload_n_0, e_aload_n_1, e_iload_n_2, e_iload_n_3, e_call_4, psh_s, psh_n, Option.bind_some, R_178, T_178_13, B_178_13, e_call_2, e_iconst_m1, e_ixor, e_iand, e_istore_6, clr_i, clr_l, clr_a, clr_n, e_istore_7, e_iconst_1, e_isub, e_iload_5, e_if_ne, e_goto, T_178_44, B_178_44, e_iconst_0, e_gotow, T_178_45, B_178_45, e_call_6, e_istore_8, e_istore_9, T_178_53, e_iload_9, e_bipush_12, e_ic_ge, e_iload_6, e_ishr, e_if_eq, e_ishl, e_ior, T_178_92, B_178_92, T_178_93, B_178_93, e_istore_10, e_iload_10, e_iload_8, e_ic_le, T_178_114, B_178_114, T_178_118, B_178_118, T_178_129, B_178_129, T_178_130, B_178_130, e_istore_11, e_iload_11, e_ic_ne, e_iload_7, T_178_150, B_178_150, T_178_158, B_178_158, e_iinc_9_1, T_178_164, B_178_164, P_706, kd_sI, ln_sI, hl_sI, gL_sI, gR_sI, kd_sL, ln_sL, hl_sL, gI_sL, gR_sL, kd_sR, ln_sR, hl_sR, gI_sR, gL_sR, kd_cpI, ln_cpI, hl_cpI, gL_cpI, gR_cpI, gI_cpI, gI_sI, gL_sL, gR_sR, St_sI, St_sL, St_cpI, Nat.reduceEqDiff, Nat.reduceAdd, eq_self, false_and, and_false, true_and, and_true, and_self, if_true, if_false, false_or, or_false, true_or, or_true, not_true_eq_false, not_false_eq_true, reduceIte, K_46, F_46_2, F_46_3, F_46_4, F_46_5, F_46_6, F_46_7, hS1, (eq_false (by simp (disch := omega) only [nI_lit, nI_add, lt_nI, le_nI, eq_nI] <;> omega) : ((12 : Int32) ≤ nI c) = False), z, sb1, e1, u2', u3', e10, nI_1, g, List.length_nil, List.length_cons, Nat.zero_le]
      · rw [show (!true) = false from rfl, b2i_f] at e1
        unfold bt at st
        simp only [if_true, decide_eq_true_eq, true_and] at st
        by_cases d1 : (cl c).1 < w
        · have st' : cl (c + 1) = (w, some c) := by rw [st, if_pos (Or.inl d1)]
          obtain ⟨h2, g, r⟩ := tk (some (.int 1)) st'
          refine ⟨h2, ?_, r⟩
          have u1' : (nI w ≤ nI (cl c).1) = False := u1.trans (eq_false (by omega))
          rw [b2i_t] at g ⊢
          simp (disch := first | assumption | exact b2i_01 _ | decide | omega | (simp only [kd_sI, ln_sI, hl_sI, gL_sI, gR_sI, kd_sL, ln_sL, hl_sL, gI_sL, gR_sL, kd_sR, ln_sR, hl_sR, gI_sR, gL_sR, kd_cpI, ln_cpI, hl_cpI, gL_cpI, gR_cpI, gI_cpI, gI_sI, gL_sL, gR_sR, St_sI, St_sL, St_cpI, Nat.reduceEqDiff, Nat.reduceAdd, eq_self, false_and, and_false, true_and, and_true, and_self, if_true, if_false, false_or, or_false, true_or, or_true, not_true_eq_false, not_false_eq_true, reduceIte, K_46, F_46_2, F_46_3, F_46_4, F_46_5, F_46_6, F_46_7, hS, hS1, (eq_false (by simp (disch := omega) only [nI_lit, nI_add, lt_nI, le_nI, eq_nI] <;> omega) : ((12 : Int32) ≤ nI c) = False), z, sb1, e1, u1', e10, nI_1, g, List.length_nil, List.length_cons, Nat.zero_le] <;> first | done | decide | omega | fail) | fail) only [B_178_0, e_iload_4, e_if_gt, e_aload_n_0, e_aload_n_1, e_iload_n_2, e_iload_n_3, e_call_4, psh_s, psh_n, Option.bind_some, R_178, T_178_13, B_178_13, e_call_2, e_iconst_m1, e_ixor, e_iand, e_istore_6, clr_i, clr_l, clr_a, clr_n, e_istore_7, e_iconst_1, e_isub, e_iload_5, e_if_ne, e_goto, T_178_44, B_178_44, e_iconst_0, e_gotow, T_178_45, B_178_45, e_call_6, e_istore_8, e_istore_9, T_178_53, e_iload_9, e_bipush_12, e_ic_ge, e_iload_6, e_ishr, e_if_eq, e_ishl, e_ior, T_178_92, B_178_92, T_178_93, B_178_93, e_istore_10, e_iload_10, e_iload_8, e_ic_le, T_178_114, B_178_114, T_178_118, B_178_118, T_178_129, B_178_129, T_178_130, B_178_130, e_istore_11, e_iload_11, e_ic_ne, e_iload_7, T_178_150, B_178_150, T_178_158, B_178_158, e_iinc_9_1, T_178_164, B_178_164, P_706, kd_sI, ln_sI, hl_sI, gL_sI, gR_sI, kd_sL, ln_sL, hl_sL, gI_sL, gR_sL, kd_sR, ln_sR, hl_sR, gI_sR, gL_sR, kd_cpI, ln_cpI, hl_cpI, gL_cpI, gR_cpI, gI_cpI, gI_sI, gL_sL, gR_sR, St_sI, St_sL, St_cpI, Nat.reduceEqDiff, Nat.reduceAdd, eq_self, false_and, and_false, true_and, and_true, and_self, if_true, if_false, false_or, or_false, true_or, or_true, not_true_eq_false, not_false_eq_true, reduceIte, K_46, F_46_2, F_46_3, F_46_4, F_46_5, F_46_6, F_46_7, hS1, (eq_false (by simp (disch := omega) only [nI_lit, nI_add, lt_nI, le_nI, eq_nI] <;> omega) : ((12 : Int32) ≤ nI c) = False), z, sb1, e1, u1', e10, nI_1, g, List.length_nil, List.length_cons, Nat.zero_le]
        · have u1' : (nI w ≤ nI (cl c).1) = True := u1.trans (eq_true (by omega))
          by_cases d2 : w = (cl c).1
          · by_cases d3 : (cl c).2 = none
            · have st' : cl (c + 1) = (w, some c) := by rw [st, if_pos (Or.inr ⟨d2, d3⟩)]
              obtain ⟨h2, g, r⟩ := tk (some (.int 0)) st'
              refine ⟨h2, ?_, r⟩
              have d4 := chn1.mpr d3
              rw [b2i_t] at g ⊢
              rw [d4]
              rw [← d2] at u1' ⊢
              simp (disch := first | assumption | exact b2i_01 _ | decide | omega | (simp only [kd_sI, ln_sI, hl_sI, gL_sI, gR_sI, kd_sL, ln_sL, hl_sL, gI_sL, gR_sL, kd_sR, ln_sR, hl_sR, gI_sR, gL_sR, kd_cpI, ln_cpI, hl_cpI, gL_cpI, gR_cpI, gI_cpI, gI_sI, gL_sL, gR_sR, St_sI, St_sL, St_cpI, Nat.reduceEqDiff, Nat.reduceAdd, eq_self, false_and, and_false, true_and, and_true, and_self, if_true, if_false, false_or, or_false, true_or, or_true, not_true_eq_false, not_false_eq_true, reduceIte, K_46, F_46_2, F_46_3, F_46_4, F_46_5, F_46_6, F_46_7, hS, hS1, (eq_false (by simp (disch := omega) only [nI_lit, nI_add, lt_nI, le_nI, eq_nI] <;> omega) : ((12 : Int32) ≤ nI c) = False), z, sb1, e1, u1', e10, nI_1, g, List.length_nil, List.length_cons, Nat.zero_le] <;> first | done | decide | omega | fail) | fail) only [B_178_0, e_iload_4, e_if_gt, e_aload_n_0, e_aload_n_1, e_iload_n_2, e_iload_n_3, e_call_4, psh_s, psh_n, Option.bind_some, R_178, T_178_13, B_178_13, e_call_2, e_iconst_m1, e_ixor, e_iand, e_istore_6, clr_i, clr_l, clr_a, clr_n, e_istore_7, e_iconst_1, e_isub, e_iload_5, e_if_ne, e_goto, T_178_44, B_178_44, e_iconst_0, e_gotow, T_178_45, B_178_45, e_call_6, e_istore_8, e_istore_9, T_178_53, e_iload_9, e_bipush_12, e_ic_ge, e_iload_6, e_ishr, e_if_eq, e_ishl, e_ior, T_178_92, B_178_92, T_178_93, B_178_93, e_istore_10, e_iload_10, e_iload_8, e_ic_le, T_178_114, B_178_114, T_178_118, B_178_118, T_178_129, B_178_129, T_178_130, B_178_130, e_istore_11, e_iload_11, e_ic_ne, e_iload_7, T_178_150, B_178_150, T_178_158, B_178_158, e_iinc_9_1, T_178_164, B_178_164, P_706, kd_sI, ln_sI, hl_sI, gL_sI, gR_sI, kd_sL, ln_sL, hl_sL, gI_sL, gR_sL, kd_sR, ln_sR, hl_sR, gI_sR, gL_sR, kd_cpI, ln_cpI, hl_cpI, gL_cpI, gR_cpI, gI_cpI, gI_sI, gL_sL, gR_sR, St_sI, St_sL, St_cpI, Nat.reduceEqDiff, Nat.reduceAdd, eq_self, false_and, and_false, true_and, and_true, and_self, if_true, if_false, false_or, or_false, true_or, or_true, not_true_eq_false, not_false_eq_true, reduceIte, K_46, F_46_2, F_46_3, F_46_4, F_46_5, F_46_6, F_46_7, hS1, (eq_false (by simp (disch := omega) only [nI_lit, nI_add, lt_nI, le_nI, eq_nI] <;> omega) : ((12 : Int32) ≤ nI c) = False), z, sb1, e1, u1', e10, nI_1, g, List.length_nil, List.length_cons, Nat.zero_le]
            · have st' : cl (c + 1) = cl c := by rw [st, if_neg (fun y => y.elim d1 (fun y => d3 y.2))]
              obtain ⟨h2, g, r⟩ := sk (some (.int 0)) st'
              refine ⟨h2, ?_, r⟩
              have d4 : ¬ chI (cl c).2 = -1 := fun y => d3 (chn1.mp y)
              rw [b2i_t] at g ⊢
              rw [← d2] at u1' g ⊢
              simp (disch := first | assumption | exact b2i_01 _ | decide | omega | (simp only [kd_sI, ln_sI, hl_sI, gL_sI, gR_sI, kd_sL, ln_sL, hl_sL, gI_sL, gR_sL, kd_sR, ln_sR, hl_sR, gI_sR, gL_sR, kd_cpI, ln_cpI, hl_cpI, gL_cpI, gR_cpI, gI_cpI, gI_sI, gL_sL, gR_sR, St_sI, St_sL, St_cpI, Nat.reduceEqDiff, Nat.reduceAdd, eq_self, false_and, and_false, true_and, and_true, and_self, if_true, if_false, false_or, or_false, true_or, or_true, not_true_eq_false, not_false_eq_true, reduceIte, K_46, F_46_2, F_46_3, F_46_4, F_46_5, F_46_6, F_46_7, hS, hS1, (eq_false (by simp (disch := omega) only [nI_lit, nI_add, lt_nI, le_nI, eq_nI] <;> omega) : ((12 : Int32) ≤ nI c) = False), z, sb1, e1, u1', d4, e10, nI_1, g, List.length_nil, List.length_cons, Nat.zero_le] <;> first | done | decide | omega | fail) | fail) only [B_178_0, e_iload_4, e_if_gt, e_aload_n_0, e_aload_n_1, e_iload_n_2, e_iload_n_3, e_call_4, psh_s, psh_n, Option.bind_some, R_178, T_178_13, B_178_13, e_call_2, e_iconst_m1, e_ixor, e_iand, e_istore_6, clr_i, clr_l, clr_a, clr_n, e_istore_7, e_iconst_1, e_isub, e_iload_5, e_if_ne, e_goto, T_178_44, B_178_44, e_iconst_0, e_gotow, T_178_45, B_178_45, e_call_6, e_istore_8, e_istore_9, T_178_53, e_iload_9, e_bipush_12, e_ic_ge, e_iload_6, e_ishr, e_if_eq, e_ishl, e_ior, T_178_92, B_178_92, T_178_93, B_178_93, e_istore_10, e_iload_10, e_iload_8, e_ic_le, T_178_114, B_178_114, T_178_118, B_178_118, T_178_129, B_178_129, T_178_130, B_178_130, e_istore_11, e_iload_11, e_ic_ne, e_iload_7, T_178_150, B_178_150, T_178_158, B_178_158, e_iinc_9_1, T_178_164, B_178_164, P_706, kd_sI, ln_sI, hl_sI, gL_sI, gR_sI, kd_sL, ln_sL, hl_sL, gI_sL, gR_sL, kd_sR, ln_sR, hl_sR, gI_sR, gL_sR, kd_cpI, ln_cpI, hl_cpI, gL_cpI, gR_cpI, gI_cpI, gI_sI, gL_sL, gR_sR, St_sI, St_sL, St_cpI, Nat.reduceEqDiff, Nat.reduceAdd, eq_self, false_and, and_false, true_and, and_true, and_self, if_true, if_false, false_or, or_false, true_or, or_true, not_true_eq_false, not_false_eq_true, reduceIte, K_46, F_46_2, F_46_3, F_46_4, F_46_5, F_46_6, F_46_7, hS1, (eq_false (by simp (disch := omega) only [nI_lit, nI_add, lt_nI, le_nI, eq_nI] <;> omega) : ((12 : Int32) ≤ nI c) = False), z, sb1, e1, u1', d4, e10, nI_1, g, List.length_nil, List.length_cons, Nat.zero_le]
          · have st' : cl (c + 1) = cl c := by rw [st, if_neg (fun y => y.elim d1 (fun y => d2 y.1))]
            have u3' : (nI w = nI (cl c).1) = False := u3.trans (eq_false d2)
            obtain ⟨h2, g, r⟩ := sk (some (.int 0)) st'
            refine ⟨h2, ?_, r⟩
            rw [b2i_t] at g ⊢
            simp (disch := first | assumption | exact b2i_01 _ | decide | omega | (simp only [kd_sI, ln_sI, hl_sI, gL_sI, gR_sI, kd_sL, ln_sL, hl_sL, gI_sL, gR_sL, kd_sR, ln_sR, hl_sR, gI_sR, gL_sR, kd_cpI, ln_cpI, hl_cpI, gL_cpI, gR_cpI, gI_cpI, gI_sI, gL_sL, gR_sR, St_sI, St_sL, St_cpI, Nat.reduceEqDiff, Nat.reduceAdd, eq_self, false_and, and_false, true_and, and_true, and_self, if_true, if_false, false_or, or_false, true_or, or_true, not_true_eq_false, not_false_eq_true, reduceIte, K_46, F_46_2, F_46_3, F_46_4, F_46_5, F_46_6, F_46_7, hS, hS1, (eq_false (by simp (disch := omega) only [nI_lit, nI_add, lt_nI, le_nI, eq_nI] <;> omega) : ((12 : Int32) ≤ nI c) = False), z, sb1, e1, u1', u3', e10, nI_1, g, List.length_nil, List.length_cons, Nat.zero_le] <;> first | done | decide | omega | fail) | fail) only [B_178_0, e_iload_4, e_if_gt, e_aload_n_0, e_aload_n_1, e_iload_n_2, e_iload_n_3, e_call_4, psh_s, psh_n, Option.bind_some, R_178, T_178_13, B_178_13, e_call_2, e_iconst_m1, e_ixor, e_iand, e_istore_6, clr_i, clr_l, clr_a, clr_n, e_istore_7, e_iconst_1, e_isub, e_iload_5, e_if_ne, e_goto, T_178_44, B_178_44, e_iconst_0, e_gotow, T_178_45, B_178_45, e_call_6, e_istore_8, e_istore_9, T_178_53, e_iload_9, e_bipush_12, e_ic_ge, e_iload_6, e_ishr, e_if_eq, e_ishl, e_ior, T_178_92, B_178_92, T_178_93, B_178_93, e_istore_10, e_iload_10, e_iload_8, e_ic_le, T_178_114, B_178_114, T_178_118, B_178_118, T_178_129, B_178_129, T_178_130, B_178_130, e_istore_11, e_iload_11, e_ic_ne, e_iload_7, T_178_150, B_178_150, T_178_158, B_178_158, e_iinc_9_1, T_178_164, B_178_164, P_706, kd_sI, ln_sI, hl_sI, gL_sI, gR_sI, kd_sL, ln_sL, hl_sL, gI_sL, gR_sL, kd_sR, ln_sR, hl_sR, gI_sR, gL_sR, kd_cpI, ln_cpI, hl_cpI, gL_cpI, gR_cpI, gI_cpI, gI_sI, gL_sL, gR_sR, St_sI, St_sL, St_cpI, Nat.reduceEqDiff, Nat.reduceAdd, eq_self, false_and, and_false, true_and, and_true, and_self, if_true, if_false, false_or, or_false, true_or, or_true, not_true_eq_false, not_false_eq_true, reduceIte, K_46, F_46_2, F_46_3, F_46_4, F_46_5, F_46_6, F_46_7, hS1, (eq_false (by simp (disch := omega) only [nI_lit, nI_add, lt_nI, le_nI, eq_nI] <;> omega) : ((12 : Int32) ≤ nI c) = False), z, sb1, e1, u1', u3', e10, nI_1, g, List.length_nil, List.length_cons, Nat.zero_le]
