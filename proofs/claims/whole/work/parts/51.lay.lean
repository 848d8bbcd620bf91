/-! what lies there: the first forty of those that are found -/
def ll (P : Nat → Bool) : Nat → List Nat
  | 0 => []
  | i + 1 => if P i = true ∧ (ll P i).length < 40 then ll P i ++ [i] else ll P i
theorem ll_t {P : Nat → Bool} {i : Nat} (c : P i = true) : ll P (i + 1) = if (ll P i).length < 40 then ll P i ++ [i] else ll P i := by
  show (if _ then _ else _) = _
  by_cases d : (ll P i).length < 40
  · rw [if_pos ⟨c, d⟩, if_pos d]
  · rw [if_neg (fun q => d q.2), if_neg d]
theorem ll_f {P : Nat → Bool} {i : Nat} (c : P i = false) : ll P (i + 1) = ll P i := by
  show (if _ then _ else _) = _
  rw [if_neg (fun q => by rw [c] at q; exact absurd q.1 (by decide))]
theorem ll_len {P : Nat → Bool} : ∀ i, (ll P i).length ≤ 40
  | 0 => by simp [ll]
  | i + 1 => by
    unfold ll
    split
    · rw [List.length_append, List.length_cons, List.length_nil]; omega
    · exact ll_len i
def LyC (a : Nat) (l : List Nat) (h : MH) : Prop := gR h 64 0 = .ref a ∧ (a = 65 ∨ 112 ≤ a) ∧ kd h a = 20 ∧ 40 ≤ ln h a ∧ ln h a ≤ 4096 ∧ gI h 64 1 = nI l.length ∧ ∀ j x, l[j]? = some x → gI h a j = nI x
theorem app_get {l : List Nat} {k j x : Nat} (e : (l ++ [k])[j]? = some x) : (j = l.length ∧ x = k) ∨ (j < l.length ∧ l[j]? = some x) := by
  rcases Nat.lt_or_ge j l.length with q | q
  · rw [List.getElem?_append_left q] at e
    exact Or.inr ⟨q, e⟩
  · rw [List.getElem?_append_right q] at e
    have : j - l.length = 0 := by
      rcases Nat.eq_zero_or_pos (j - l.length) with z | z
      · exact z
      · rw [List.getElem?_eq_none (by simp; omega)] at e
        cases e
    rw [this] at e
    simp at e
    exact Or.inl ⟨by omega, e.symm⟩
theorem s_Ly_addCase {a k μ : Nat} {l : List Nat} {h : MH} (hS : St h) (hY : LyC a l h) (hl : l.length ≤ 40) (hμ : 3 < μ) : ∃ h', cal 142 [.ref 64, .int (nI k)] μ h = some (none, h') ∧ Sm h h' [(a, none), (64, some 1)] ∧ LyC a (if l.length < 40 then l ++ [k] else l) h' := by
  have hY0 := hY
  obtain ⟨a1, a2, a3, a4, a4', a5, a6⟩ := hY
  have ka : 20 ≤ kd h a ∧ kd h a ≤ 24 := by omega
  have a2' : 2 ≤ a := by omega
  have n1 : (64 = a) = False := eq_false (by omega)
  have n2 : (a = 64) = False := eq_false (by omega)
  have sw : wr [(a, none), (64, some 1)] a l.length = true := by simp [wr, wr1]
  have sw2 : wr [(a, none), (64, some 1)] 64 1 = true := by simp [wr, wr1]
  by_cases c : l.length < 40
  · rw [if_pos c]
    refine ⟨sI (sI h a l.length (nI k)) 64 1 (nI (l.length + 1)), ?_, ((Sm.rf h _).sI sw).sI sw2, ?_⟩
    · have bn : inBd (nI l.length) (ln h a) = true := inBd_nI (by omega) (by omega)
      have tn := tc_nI (show l.length < 2147483648 by omega)
      rw [C_142 64 _ μ h (K_64 hS) (by decide) hμ]
      simp (disch := first | assumption | exact b2i_01 _ | decide | omega | (simp only [kd_sI, ln_sI, hl_sI, gL_sI, gR_sI, kd_sL, ln_sL, hl_sL, gI_sL, gR_sL, kd_sR, ln_sR, hl_sR, gI_sR, gL_sR, kd_cpI, ln_cpI, hl_cpI, gL_cpI, gR_cpI, gI_cpI, gI_sI, gL_sL, gR_sR, St_sI, St_sL, St_cpI, Nat.reduceEqDiff, Nat.reduceAdd, eq_self, false_and, and_false, true_and, and_true, and_self, if_true, if_false, false_or, or_false, true_or, or_true, not_true_eq_false, not_false_eq_true, reduceIte, K_64, hS, a1, a3, a5, a2', ka, n1, n2, bn, tn, nI_nneg (show l.length < 2147483648 by omega), (eq_false (by simp (disch := omega) only [nI_lit, nI_add, lt_nI, le_nI, eq_nI] <;> omega) : ((40 : Int32) ≤ nI l.length) = False), (eq_false (by simp (disch := omega) only [nI_lit, nI_add, lt_nI, le_nI, eq_nI] <;> omega) : (nI (ln h a) ≤ nI l.length) = False), nI_1] <;> first | done | decide | omega | fail) | fail) only [B_142_0, e_aload_n_0, G_301, e_if_lt, e_bipush_40, e_ic_ge, G_300, e_alen, e_iload_n_1, e_iastore, e_dup_i, e_dup_a, e_iconst_1, e_iadd, P_301, e_gotow, T_142_48, B_142_48, R_142, kd_sI, ln_sI, hl_sI, gL_sI, gR_sI, kd_sL, ln_sL, hl_sL, gI_sL, gR_sL, kd_sR, ln_sR, hl_sR, gI_sR, gL_sR, kd_cpI, ln_cpI, hl_cpI, gL_cpI, gR_cpI, gI_cpI, gI_sI, gL_sL, gR_sR, St_sI, St_sL, St_cpI, Nat.reduceEqDiff, Nat.reduceAdd, eq_self, false_and, and_false, true_and, and_true, and_self, if_true, if_false, false_or, or_false, true_or, or_true, not_true_eq_false, not_false_eq_true, reduceIte, K_64, a1, a3, a5, a2', ka, n1, n2, bn, tn, nI_nneg (show l.length < 2147483648 by omega), (eq_false (by simp (disch := omega) only [nI_lit, nI_add, lt_nI, le_nI, eq_nI] <;> omega) : ((40 : Int32) ≤ nI l.length) = False), (eq_false (by simp (disch := omega) only [nI_lit, nI_add, lt_nI, le_nI, eq_nI] <;> omega) : (nI (ln h a) ≤ nI l.length) = False), nI_1]
    · refine ⟨?_, a2, ?_, ?_, ?_, ?_, fun j x e => ?_⟩
      · simp only [kd_sI, ln_sI, hl_sI, gL_sI, gR_sI, kd_sL, ln_sL, hl_sL, gI_sL, gR_sL, kd_sR, ln_sR, hl_sR, gI_sR, gL_sR, kd_cpI, ln_cpI, hl_cpI, gL_cpI, gR_cpI, gI_cpI, gI_sI, gL_sL, gR_sR, St_sI, St_sL, St_cpI, Nat.reduceEqDiff, Nat.reduceAdd, eq_self, false_and, and_false, true_and, and_true, and_self, if_true, if_false, false_or, or_false, true_or, or_true, not_true_eq_false, not_false_eq_true, reduceIte]; exact a1
      · simp only [kd_sI, ln_sI, hl_sI, gL_sI, gR_sI, kd_sL, ln_sL, hl_sL, gI_sL, gR_sL, kd_sR, ln_sR, hl_sR, gI_sR, gL_sR, kd_cpI, ln_cpI, hl_cpI, gL_cpI, gR_cpI, gI_cpI, gI_sI, gL_sL, gR_sR, St_sI, St_sL, St_cpI, Nat.reduceEqDiff, Nat.reduceAdd, eq_self, false_and, and_false, true_and, and_true, and_self, if_true, if_false, false_or, or_false, true_or, or_true, not_true_eq_false, not_false_eq_true, reduceIte]; exact a3
      · simp only [kd_sI, ln_sI, hl_sI, gL_sI, gR_sI, kd_sL, ln_sL, hl_sL, gI_sL, gR_sL, kd_sR, ln_sR, hl_sR, gI_sR, gL_sR, kd_cpI, ln_cpI, hl_cpI, gL_cpI, gR_cpI, gI_cpI, gI_sI, gL_sL, gR_sR, St_sI, St_sL, St_cpI, Nat.reduceEqDiff, Nat.reduceAdd, eq_self, false_and, and_false, true_and, and_true, and_self, if_true, if_false, false_or, or_false, true_or, or_true, not_true_eq_false, not_false_eq_true, reduceIte]; exact a4
      · simp only [kd_sI, ln_sI, hl_sI, gL_sI, gR_sI, kd_sL, ln_sL, hl_sL, gI_sL, gR_sL, kd_sR, ln_sR, hl_sR, gI_sR, gL_sR, kd_cpI, ln_cpI, hl_cpI, gL_cpI, gR_cpI, gI_cpI, gI_sI, gL_sL, gR_sR, St_sI, St_sL, St_cpI, Nat.reduceEqDiff, Nat.reduceAdd, eq_self, false_and, and_false, true_and, and_true, and_self, if_true, if_false, false_or, or_false, true_or, or_true, not_true_eq_false, not_false_eq_true, reduceIte]; exact a4'
      · rw [gI_sI, if_pos ⟨rfl, rfl⟩, List.length_append]; rfl
      · rw [gI_sI, if_neg (fun q => by omega), gI_sI]
        rcases app_get e with ⟨q1, q2⟩ | ⟨q1, q2⟩
        · rw [if_pos ⟨rfl, q1⟩, q2]
        · rw [if_neg (fun q => by omega)]; exact a6 j x q2
  · rw [if_neg c]
    refine ⟨h, ?_, Sm.rf h _, hY0⟩
    have e40 : l.length = 40 := by omega
    rw [e40] at a5
    have k0 : (nI 40 < 0) = False := by decide
    have k1 : ((40 : Int32) ≤ nI 40) = True := by decide
    rw [C_142 64 _ μ h (K_64 hS) (by decide) hμ]
    simp (disch := first | assumption | exact b2i_01 _ | decide | omega | (simp only [kd_sI, ln_sI, hl_sI, gL_sI, gR_sI, kd_sL, ln_sL, hl_sL, gI_sL, gR_sL, kd_sR, ln_sR, hl_sR, gI_sR, gL_sR, kd_cpI, ln_cpI, hl_cpI, gL_cpI, gR_cpI, gI_cpI, gI_sI, gL_sL, gR_sR, St_sI, St_sL, St_cpI, Nat.reduceEqDiff, Nat.reduceAdd, eq_self, false_and, and_false, true_and, and_true, and_self, if_true, if_false, false_or, or_false, true_or, or_true, not_true_eq_false, not_false_eq_true, reduceIte, K_64, hS, a5, k0, k1] <;> first | done | decide | omega | fail) | fail) only [B_142_0, e_aload_n_0, G_301, e_if_lt, e_bipush_40, e_ic_ge, G_300, e_alen, e_iload_n_1, e_iastore, e_dup_i, e_dup_a, e_iconst_1, e_iadd, P_301, e_gotow, T_142_48, B_142_48, R_142, kd_sI, ln_sI, hl_sI, gL_sI, gR_sI, kd_sL, ln_sL, hl_sL, gI_sL, gR_sL, kd_sR, ln_sR, hl_sR, gI_sR, gL_sR, kd_cpI, ln_cpI, hl_cpI, gL_cpI, gR_cpI, gI_cpI, gI_sI, gL_sL, gR_sR, St_sI, St_sL, St_cpI, Nat.reduceEqDiff, Nat.reduceAdd, eq_self, false_and, and_false, true_and, and_true, and_self, if_true, if_false, false_or, or_false, true_or, or_true, not_true_eq_false, not_false_eq_true, reduceIte, K_64, a5, k0, k1]
def LyM (l : List Nat) (h : MH) : Prop := gI h 66 67 = nI l.length ∧ ∀ j x, l[j]? = some x → gI h 96 j = nI x
theorem s_Mo_lay {k μ : Nat} {l : List Nat} {h : MH} (hS : St h) (hY : LyM l h) (hl : l.length < 40) (hμ : 3 < μ) : ∃ h', cal 287 [.ref 66, .int (nI k)] μ h = some (none, h') ∧ Sm h h' [(96, none), (66, some 67)] ∧ LyM (l ++ [k]) h' := by
  obtain ⟨a5, a6⟩ := hY
  have bn : inBd (nI l.length) 4096 = true := inBd_nI (by omega) (by omega)
  have tn := tc_nI (show l.length < 2147483648 by omega)
  refine ⟨sI (sI h 96 l.length (nI k)) 66 67 (nI (l.length + 1)), ?_, ((Sm.rf h _).sI rfl).sI rfl, ?_, fun j x e => ?_⟩
  · rw [C_287 66 _ μ h (K_66 hS) (by decide) hμ]
    simp (disch := first | assumption | exact b2i_01 _ | decide | omega | (simp only [kd_sI, ln_sI, hl_sI, gL_sI, gR_sI, kd_sL, ln_sL, hl_sL, gI_sL, gR_sL, kd_sR, ln_sR, hl_sR, gI_sR, gL_sR, kd_cpI, ln_cpI, hl_cpI, gL_cpI, gR_cpI, gI_cpI, gI_sI, gL_sL, gR_sR, St_sI, St_sL, St_cpI, Nat.reduceEqDiff, Nat.reduceAdd, eq_self, false_and, and_false, true_and, and_true, and_self, if_true, if_false, false_or, or_false, true_or, or_true, not_true_eq_false, not_false_eq_true, reduceIte, K_66, F_66_0, F_66_10, F_66_11, F_66_12, F_66_13, F_66_14, F_66_15, F_66_16, F_66_17, F_66_18, F_66_25, F_66_26, F_66_27, F_66_28, F_66_29, F_66_30, F_66_31, F_66_32, F_66_33, F_66_34, F_66_35, F_66_36, F_66_37, F_66_38, F_66_39, F_66_60, F_66_61, F_66_62, F_66_63, F_66_66, F_66_68, F_66_69, F_66_71, F_66_72, F_66_73, F_66_74, F_66_77, F_66_78, F_66_79, F_66_80, F_66_81, F_66_84, F_66_85, F_66_86, F_66_87, K_96, N_96, hS, a5, bn, tn, nI_1] <;> first | done | decide | omega | fail) | fail) only [B_287_0, e_aload_n_0, G_1266, G_1267, e_iload_n_1, e_iastore, e_dup_i, e_dup_a, e_iconst_1, e_iadd, P_1267, R_287, kd_sI, ln_sI, hl_sI, gL_sI, gR_sI, kd_sL, ln_sL, hl_sL, gI_sL, gR_sL, kd_sR, ln_sR, hl_sR, gI_sR, gL_sR, kd_cpI, ln_cpI, hl_cpI, gL_cpI, gR_cpI, gI_cpI, gI_sI, gL_sL, gR_sR, St_sI, St_sL, St_cpI, Nat.reduceEqDiff, Nat.reduceAdd, eq_self, false_and, and_false, true_and, and_true, and_self, if_true, if_false, false_or, or_false, true_or, or_true, not_true_eq_false, not_false_eq_true, reduceIte, K_66, F_66_0, F_66_10, F_66_11, F_66_12, F_66_13, F_66_14, F_66_15, F_66_16, F_66_17, F_66_18, F_66_25, F_66_26, F_66_27, F_66_28, F_66_29, F_66_30, F_66_31, F_66_32, F_66_33, F_66_34, F_66_35, F_66_36, F_66_37, F_66_38, F_66_39, F_66_60, F_66_61, F_66_62, F_66_63, F_66_66, F_66_68, F_66_69, F_66_71, F_66_72, F_66_73, F_66_74, F_66_77, F_66_78, F_66_79, F_66_80, F_66_81, F_66_84, F_66_85, F_66_86, F_66_87, K_96, N_96, a5, bn, tn, nI_1]
  · rw [gI_sI, if_pos ⟨rfl, rfl⟩, List.length_append]; rfl
  · rw [gI_sI, if_neg (fun q => by omega), gI_sI]
    rcases app_get e with ⟨q1, q2⟩ | ⟨q1, q2⟩
    · rw [if_pos ⟨rfl, q1⟩, q2]
    · rw [if_neg (fun q => by omega)]; exact a6 j x q2
/-- a cell that is made later may stand for cell 65 -/
theorem Sm.frA {h h' : MH} {a : Nat} {l : WL} (s : Sm h h' ((a, none) :: l)) (ha : a = 65 ∨ 112 ≤ a) : Fr h h' ((65, none) :: l) := by
  intro x k hx q
  refine s.2 x k ?_
  rcases ha with rfl | ha
  · exact q
  · unfold wr at q ⊢
    rw [List.any_cons, Bool.or_eq_false_iff] at q ⊢
    refine ⟨?_, q.2⟩
    unfold wr1
    have : (a == x) = false := by simp; omega
    simp [this]
theorem SmStA {h h' : MH} {a : Nat} {l : WL} (s : Sm h h' ((a, none) :: l)) (ha : a = 65 ∨ 112 ≤ a) (hS : St h) (w : RTB.all (fun q => !wr ((65, none) :: l) q.1 q.2.1 && decide (q.1 < 112)) = true) : St h' := by
  refine ⟨?_, fun q hq => ?_⟩
  · obtain ⟨L, ext, e⟩ := hS.1
    exact ⟨L, ext, s.1.trans e⟩
  · have z := List.all_eq_true.mp w q hq
    rw [Bool.and_eq_true, decide_eq_true_iff] at z
    rw [(s.frA ha q.1 q.2.1 z.2 (by simpa using z.1)).2.2]
    exact hS.2 q hq
theorem wr_a {a x k : Nat} {l : WL} (h1 : ¬ a = x) (h2 : wr l x k = false) : wr ((a, none) :: l) x k = false := by
  unfold wr at h2 ⊢
  rw [List.any_cons, Bool.or_eq_false_iff]
  refine ⟨?_, h2⟩
  unfold wr1
  have : (a == x) = false := by simpa using h1
  simp [this]
theorem Srh.smA {h h' : MH} {a : Nat} {l : WL} (hX : Srh h) (s : Sm h h' ((a, none) :: l)) (ka : kd h a = 20) (ha : a = 65 ∨ 112 ≤ a) (d : dj l RH = true) (d2 : lo l = true) : Srh h' := by
  have e : gR h' 2 9 = gR h 2 9 := s.R (wr_a (by omega) (dj_wr d rfl))
  rcases hX with q | ⟨b, a1, a2, a3, ⟨b1, b2, b3⟩, ⟨c1, c2, c3⟩, e1, e2, e3⟩
  · exact Or.inl (e.trans q)
  · have ne : ¬ a = b := fun q => by rw [q] at ka; omega
    refine Or.inr ⟨b, e.trans a1, a2, by rw [Sm_kd s]; exact a3, ⟨?_, ?_, ?_⟩, ⟨?_, ?_, ?_⟩, ?_, ?_, ?_⟩
    · rw [s.R (wr_a ne (lo_wr d2 a2))]; exact b1
    · rw [Sm_kd s]; exact b2
    · rw [Sm_ln s]; exact b3
    · rw [s.R (wr_a ne (lo_wr d2 a2))]; exact c1
    · rw [Sm_kd s]; exact c2
    · rw [Sm_ln s]; exact c3
    · rw [s.R (wr_a ne (lo_wr d2 a2))]; exact e1
    · rw [Sm_kd s]; exact e2
    · rw [Sm_ln s]; exact e3
theorem Rom.smA {h h' : MH} {a : Nat} {l : WL} (hX : Rom h) (s : Sm h h' ((a, none) :: l)) (ha : a = 65 ∨ 112 ≤ a) (d : dj l RR = true) : Rom h' := by
  obtain ⟨L, hL, x, y, a1, a2, a3, a4⟩ := hX
  refine ⟨L, hL, x, y, by rw [s.R (wr_a (by omega) (dj_wr d rfl))]; exact a1, ?_, by rw [s.1]; exact a3, by unfold szH; rw [s.1]; exact a4⟩
  rw [s.R (wr_a (by omega) (dj_wr d rfl))]
  rcases a2 with q | ⟨q, b, q1, q2⟩
  · exact Or.inl q
  · exact Or.inr ⟨q, b, q1, by rw [Sm_ln s]; exact q2⟩
theorem LyC.sm {h h' : MH} {a : Nat} {l : List Nat} (hY : LyC a l h) (s : Sm h h' [(52, none)]) : LyC a l h' := by
  obtain ⟨a1, a2, a3, a4, a4', a5, a6⟩ := hY
  refine ⟨by rw [s.R rfl]; exact a1, a2, by rw [Sm_kd s]; exact a3, by rw [Sm_ln s]; exact a4, by rw [Sm_ln s]; exact a4', by rw [s.I rfl]; exact a5, fun j x e => ?_⟩
  rw [s.I (wr_52 (by omega))]; exact a6 j x e
/-- the class's part -/
def YC (o p a : Nat) (L : LD) (l : List Nat) (h h' : MH) : Prop := Sm h h' [(a, none), (52, none), (64, some 1)] ∧ QI o p L h' ∧ LyC a l h'
theorem mem_a52 {a : Nat} : ∀ q : Nat × Option Nat, q ∈ [(a, (none : Option Nat)), (64, some 1)] → q ∈ [(a, (none : Option Nat)), (52, none), (64, some 1)] := by
  intro q hq
  simp only [List.mem_cons, List.not_mem_nil, or_false] at hq ⊢
  rcases hq with rfl | rfl <;> simp
theorem mem_52a {a : Nat} : ∀ q : Nat × Option Nat, q ∈ [(52, (none : Option Nat))] → q ∈ [(a, (none : Option Nat)), (52, none), (64, some 1)] := by
  intro q hq
  simp only [List.mem_cons, List.not_mem_nil, or_false] at hq ⊢
  rcases hq with rfl; simp
theorem q_addCase {o p a k : Nat} {L : LD} {l : List Nat} {h : MH} (hI : QI o p L h) (hY : LyC a l h) (hl : l.length ≤ 40) {μ : Nat} (hμ : 3 < μ) : ∃ h', cal 142 [.ref 64, .int (nI k)] μ h = some (none, h') ∧ YC o p a L (if l.length < 40 then l ++ [k] else l) h h' := by
  obtain ⟨h1, e1, s1, y1⟩ := s_Ly_addCase (k := k) hI.1.1 hY hl hμ
  exact ⟨h1, e1, s1.mono mem_a52, hI.fr (SmStA s1 hY.2.1 hI.1.1 (by decide +kernel)) (s1.frA hY.2.1) (by decide +kernel), y1⟩
theorem YC.memo {o p a : Nat} {L : LD} {l : List Nat} {h h' : MH} (hY : LyC a l h) (m : Mm o p L h h') : YC o p a L l h h' := ⟨m.1.mono mem_52a, m.2, hY.sm m.1⟩
theorem YC.trans {o p a : Nat} {L : LD} {l l' : List Nat} {h h1 h2 : MH} (a1 : YC o p a L l h h1) (b : YC o p a L l' h1 h2) : YC o p a L l' h h2 := ⟨a1.1.trans b.1, b.2⟩
/-- the reference's -/
def YM (o p : Nat) (L : LD) (l : List Nat) (h h' : MH) : Prop := Sm h h' [(96, none), (66, some 67)] ∧ QI o p L h' ∧ LyM l h'
theorem YM.trans {o p : Nat} {L : LD} {l l' : List Nat} {h h1 h2 : MH} (a1 : YM o p L l h h1) (b : YM o p L l' h1 h2) : YM o p L l' h h2 := ⟨a1.1.trans b.1, b.2⟩
theorem q_lay {o p k : Nat} {L : LD} {l : List Nat} {h : MH} (hI : QI o p L h) (hY : LyM l h) (hl : l.length < 40) {μ : Nat} (hμ : 3 < μ) : ∃ h', cal 287 [.ref 66, .int (nI k)] μ h = some (none, h') ∧ YM o p L (l ++ [k]) h h' := by
  obtain ⟨h1, e1, s1, y1⟩ := s_Mo_lay (k := k) hI.1.1 hY hl hμ
  exact ⟨h1, e1, s1, hI.fr (s1.St hI.1.1 (by decide +kernel)) s1.fr (by decide +kernel), y1⟩
theorem s_Ly_clear {o p a n : Nat} {L : LD} {h : MH} (hI : QI o p L h) (a1 : gR h 64 0 = .ref a) (a2 : a = 65 ∨ 112 ≤ a) (a3 : kd h a = 20) (a4 : 40 ≤ ln h a) (a4' : ln h a ≤ 4096) {μ : Nat} (hμ : 3 < μ) : ∃ h', cal 33 [.ref 64] μ h = some (none, h') ∧ YC o p a L [] h h' := by
  have hS := hI.1.1
  have s1 : Sm h (sI h 64 1 0) [(a, none), (64, some 1)] := (Sm.rf h _).sI (by simp [wr, wr1])
  refine ⟨sI h 64 1 0, ?_, s1.mono mem_a52, hI.fr (SmStA s1 a2 hS (by decide +kernel)) (s1.frA a2) (by decide +kernel), ?_⟩
  · rw [C_33 64  μ h (K_64 hS) (by decide) hμ]
    simp (disch := first | assumption | exact b2i_01 _ | decide | omega | (simp only [kd_sI, ln_sI, hl_sI, gL_sI, gR_sI, kd_sL, ln_sL, hl_sL, gI_sL, gR_sL, kd_sR, ln_sR, hl_sR, gI_sR, gL_sR, kd_cpI, ln_cpI, hl_cpI, gL_cpI, gR_cpI, gI_cpI, gI_sI, gL_sL, gR_sR, St_sI, St_sL, St_cpI, Nat.reduceEqDiff, Nat.reduceAdd, eq_self, false_and, and_false, true_and, and_true, and_self, if_true, if_false, false_or, or_false, true_or, or_true, not_true_eq_false, not_false_eq_true, reduceIte, K_64, hS] <;> first | done | decide | omega | fail) | fail) only [B_33_0, e_aload_n_0, e_iconst_0, P_301, R_33, kd_sI, ln_sI, hl_sI, gL_sI, gR_sI, kd_sL, ln_sL, hl_sL, gI_sL, gR_sL, kd_sR, ln_sR, hl_sR, gI_sR, gL_sR, kd_cpI, ln_cpI, hl_cpI, gL_cpI, gR_cpI, gI_cpI, gI_sI, gL_sL, gR_sR, St_sI, St_sL, St_cpI, Nat.reduceEqDiff, Nat.reduceAdd, eq_self, false_and, and_false, true_and, and_true, and_self, if_true, if_false, false_or, or_false, true_or, or_true, not_true_eq_false, not_false_eq_true, reduceIte, K_64]
  · refine ⟨?_, a2, ?_, ?_, ?_, ?_, fun j x e => by simp at e⟩
    · simp only [kd_sI, ln_sI, hl_sI, gL_sI, gR_sI, kd_sL, ln_sL, hl_sL, gI_sL, gR_sL, kd_sR, ln_sR, hl_sR, gI_sR, gL_sR, kd_cpI, ln_cpI, hl_cpI, gL_cpI, gR_cpI, gI_cpI, gI_sI, gL_sL, gR_sR, St_sI, St_sL, St_cpI, Nat.reduceEqDiff, Nat.reduceAdd, eq_self, false_and, and_false, true_and, and_true, and_self, if_true, if_false, false_or, or_false, true_or, or_true, not_true_eq_false, not_false_eq_true, reduceIte]; exact a1
    · simp only [kd_sI, ln_sI, hl_sI, gL_sI, gR_sI, kd_sL, ln_sL, hl_sL, gI_sL, gR_sL, kd_sR, ln_sR, hl_sR, gI_sR, gL_sR, kd_cpI, ln_cpI, hl_cpI, gL_cpI, gR_cpI, gI_cpI, gI_sI, gL_sL, gR_sR, St_sI, St_sL, St_cpI, Nat.reduceEqDiff, Nat.reduceAdd, eq_self, false_and, and_false, true_and, and_true, and_self, if_true, if_false, false_or, or_false, true_or, or_true, not_true_eq_false, not_false_eq_true, reduceIte]; exact a3
    · simp only [kd_sI, ln_sI, hl_sI, gL_sI, gR_sI, kd_sL, ln_sL, hl_sL, gI_sL, gR_sL, kd_sR, ln_sR, hl_sR, gI_sR, gL_sR, kd_cpI, ln_cpI, hl_cpI, gL_cpI, gR_cpI, gI_cpI, gI_sI, gL_sL, gR_sR, St_sI, St_sL, St_cpI, Nat.reduceEqDiff, Nat.reduceAdd, eq_self, false_and, and_false, true_and, and_true, and_self, if_true, if_false, false_or, or_false, true_or, or_true, not_true_eq_false, not_false_eq_true, reduceIte]; exact a4
    · simp only [kd_sI, ln_sI, hl_sI, gL_sI, gR_sI, kd_sL, ln_sL, hl_sL, gI_sL, gR_sL, kd_sR, ln_sR, hl_sR, gI_sR, gL_sR, kd_cpI, ln_cpI, hl_cpI, gL_cpI, gR_cpI, gI_cpI, gI_sI, gL_sL, gR_sR, St_sI, St_sL, St_cpI, Nat.reduceEqDiff, Nat.reduceAdd, eq_self, false_and, and_false, true_and, and_true, and_self, if_true, if_false, false_or, or_false, true_or, or_true, not_true_eq_false, not_false_eq_true, reduceIte]; exact a4'
    · rw [gI_sI, if_pos ⟨rfl, rfl⟩]; rfl
/-- both together -/
theorem INV.lay {o p a : Nat} {L : LD} {l : List Nat} {h h1 h2 : MH} (hI : INV o p L h) (e : gR h 64 0 = .ref a) (hl : l.length ≤ 40) (c : YC o p a L l h h1) (m : YM o p L l h1 h2) : INV o p L h2 := by
  obtain ⟨a1, a2, a3, a4, a4', a5, a6⟩ := c.2.2
  have ka : kd h a = 20 := by rw [← Sm_kd c.1]; exact a3
  have s2 := m.1
  have a1' : gR h2 64 0 = .ref a := by rw [s2.R rfl]; exact a1
  have r1 : Rom h1 := hI.2.2.2.2.smA c.1 a2 (by decide +kernel)
  have r2 : Srh h1 := hI.2.2.2.1.smA c.1 ka a2 (by decide +kernel) rfl
  have f1 : Fr h h2 [(65, none), (52, none), (64, some 1), (96, none), (66, some 67)] := ((c.1.frA a2).mono (by decide)).trans (s2.fr.mono (by decide))
  obtain ⟨a0, n0, z1, z2, z3, z4, z5, z6, z7, z8⟩ := hI.2.2.1
  obtain rfl : a0 = a := by
    rw [z1] at e
    injection e
  refine hI.setL m.2.1 f1 (by decide +kernel) ⟨a0, l.length, a1', a2, ?_, ?_, ?_, ?_, m.2.2.1, fun i hi => ?_⟩ (r2.sm s2 (by decide +kernel) rfl) (r1.sm s2 (by decide +kernel))
  · rw [Sm_kd s2]; exact a3
  · rw [Sm_ln s2, Sm_ln c.1]; exact z4
  · rw [Sm_ln s2]; omega
  · rw [s2.I rfl]; exact a5
  · have hg : l[i]? = some l[i] := List.getElem?_eq_getElem hi
    rw [m.2.2.2 i _ hg, s2.I, a6 i _ hg]
    rcases a2 with rfl | a2
    · rfl
    · exact lo_wr rfl a2
theorem lp_GL_fruit {o p a t t2 : Nat} {L : LD} {b b2 x0 : Int32} (ht : t < 3) (ht2 : t2 < 3) : ∀ m i h, QI o p L h → LyC a (ll (fun k => decide (¬ fol L b t k = fol L b2 t k)) i) h → i + m = dN L → ∃ h', rn 141 6 B_141_54 [some (.ref 2), some (.int x0), some (.int (nI t)), some (.int b), some (.int b2), some (.int (cnt (fun k => decide (¬ fol L b t k = fol L b2 t k)) i)), some (.int (nI i))] [] h = some (some (.int (cnt (fun k => decide (¬ fol L b t k = fol L b2 t k)) (dN L))), h') ∧ YC o p a L (ll (fun k => decide (¬ fol L b t k = fol L b2 t k)) (dN L)) h h' := by
  intro m
  induction m with
  | zero =>
    intro i h hI hY hi
    have hS := hI.1.1; have hB := hI.1.2.1; have hC := hI.1.2.2.1; have hM := hI.2.1; have hs := hI.2.2; have ho := hC.1.1; have hl := hC.1.2.1; have hl2 := hC.1.2.2.1; have hl3 := hC.1.2.2.2; have cT := hC.2.1.1; have cR := hC.2.1.2.1; have cC := hC.2.1.2.2.1; have cN := hC.2.1.2.2.2; have mT := hM.1.1; have mR := hM.1.2.1; have mC := hM.1.2.2.1; have mN := hM.1.2.2.2; have hb := hB.1; have e10 : ((1 : Int32) = 0) = False := by simp
    obtain rfl : i = dN L := by omega
    refine ⟨h, ?_, YC.memo hY (Mm.rf hI)⟩
    rw [B_141_54]
    simp (disch := first | assumption | exact b2i_01 _ | decide | omega | (simp only [kd_sI, ln_sI, hl_sI, gL_sI, gR_sI, kd_sL, ln_sL, hl_sL, gI_sL, gR_sL, kd_sR, ln_sR, hl_sR, gI_sR, gL_sR, kd_cpI, ln_cpI, hl_cpI, gL_cpI, gR_cpI, gI_cpI, gI_sI, gL_sL, gR_sR, St_sI, St_sL, St_cpI, Nat.reduceEqDiff, Nat.reduceAdd, eq_self, false_and, and_false, true_and, and_true, and_self, if_true, if_false, false_or, or_false, true_or, or_true, not_true_eq_false, not_false_eq_true, reduceIte, K_2, F_2_0, F_2_1, F_2_2, F_2_3, F_2_4, F_2_5, F_2_6, K_46, F_46_2, F_46_3, F_46_4, F_46_5, F_46_6, F_46_7, hS, cN, (eq_true (by simp (disch := omega) only [nI_lit, nI_add, lt_nI, le_nI, eq_nI] <;> omega) : (nI (dN L) ≤ nI (dN L)) = True)] <;> first | done | decide | omega | fail) | fail) only [B_141_0, e_aload_n_0, G_1106, e_call_1, psh_s, psh_n, Option.bind_some, G_1107, G_505, e_iload_n_1, e_call_2, e_if_ne, e_iconst_m1, R_141, T_141_23, B_141_23, G_506, e_iaload, e_istore_n_2, clr_i, clr_l, clr_a, clr_n, G_1103, e_istore_n_3, e_iload_n_3, e_iconst_1, e_ishl, e_ixor, e_istore_4, e_iconst_0, e_istore_5, e_istore_6, e_gotow, T_141_54, e_iload_6, G_1102, G_1, e_ic_ge, e_iload_n_2, e_call_4, e_iload_4, e_ic_eq, e_iinc_5_1, T_141_104, B_141_104, e_iinc_6_1, e_goto, T_141_110, B_141_110, e_iload_5, kd_sI, ln_sI, hl_sI, gL_sI, gR_sI, kd_sL, ln_sL, hl_sL, gI_sL, gR_sL, kd_sR, ln_sR, hl_sR, gI_sR, gL_sR, kd_cpI, ln_cpI, hl_cpI, gL_cpI, gR_cpI, gI_cpI, gI_sI, gL_sL, gR_sR, St_sI, St_sL, St_cpI, Nat.reduceEqDiff, Nat.reduceAdd, eq_self, false_and, and_false, true_and, and_true, and_self, if_true, if_false, false_or, or_false, true_or, or_true, not_true_eq_false, not_false_eq_true, reduceIte, K_2, F_2_0, F_2_1, F_2_2, F_2_3, F_2_4, F_2_5, F_2_6, K_46, F_46_2, F_46_3, F_46_4, F_46_5, F_46_6, F_46_7, cN, (eq_true (by simp (disch := omega) only [nI_lit, nI_add, lt_nI, le_nI, eq_nI] <;> omega) : (nI (dN L) ≤ nI (dN L)) = True)]
  | succ m ih =>
    intro i h hI hY hi
    have hS := hI.1.1; have hB := hI.1.2.1; have hC := hI.1.2.2.1; have hM := hI.2.1; have hs := hI.2.2; have ho := hC.1.1; have hl := hC.1.2.1; have hl2 := hC.1.2.2.1; have hl3 := hC.1.2.2.2; have cT := hC.2.1.1; have cR := hC.2.1.2.1; have cC := hC.2.1.2.2.1; have cN := hC.2.1.2.2.2; have mT := hM.1.1; have mR := hM.1.2.1; have mC := hM.1.2.2.1; have mN := hM.1.2.2.2; have hb := hB.1; have e10 : ((1 : Int32) = 0) = False := by simp
    obtain ⟨h1, e1, m1⟩ := q_out hI b ht (show i < dN L by omega) (μ := 6) (by omega)
    obtain ⟨h2, e2, m2⟩ := q_out m1.2 b2 ht (show i < dN L by omega) (μ := 6) (by omega)
    have m12 := m1.trans m2
    have y2 := YC.memo hY m12
    have hS1 := m1.2.1.1
    have hS2 := m2.2.1.1
    rw [B_141_54]
    by_cases c : fol L b t i = fol L b2 t i
    · have cf : (fun k => decide (¬ fol L b t k = fol L b2 t k)) i = false := decide_eq_false (fun z => z c)
      obtain ⟨h3, e3, y3⟩ := ih (i + 1) h2 m2.2 (by rw [ll_f cf]; exact y2.2.2) (by omega)
      rw [cnt_f cf] at e3
      refine ⟨h3, ?_, y2.trans y3⟩
      simp (disch := first | assumption | exact b2i_01 _ | decide | omega | (simp only [kd_sI, ln_sI, hl_sI, gL_sI, gR_sI, kd_sL, ln_sL, hl_sL, gI_sL, gR_sL, kd_sR, ln_sR, hl_sR, gI_sR, gL_sR, kd_cpI, ln_cpI, hl_cpI, gL_cpI, gR_cpI, gI_cpI, gI_sI, gL_sL, gR_sR, St_sI, St_sL, St_cpI, Nat.reduceEqDiff, Nat.reduceAdd, eq_self, false_and, and_false, true_and, and_true, and_self, if_true, if_false, false_or, or_false, true_or, or_true, not_true_eq_false, not_false_eq_true, reduceIte, K_2, F_2_0, F_2_1, F_2_2, F_2_3, F_2_4, F_2_5, F_2_6, K_46, F_46_2, F_46_3, F_46_4, F_46_5, F_46_6, F_46_7, hS, hS1, hS2, cN, (eq_false (by simp (disch := omega) only [nI_lit, nI_add, lt_nI, le_nI, eq_nI] <;> omega) : (nI (dN L) ≤ nI i) = False), e1, e2, c, e3, nI_1, List.length_nil, List.length_cons, Nat.zero_le] <;> first | done | decide | omega | fail) | fail) only [B_141_0, e_aload_n_0, G_1106, e_call_1, psh_s, psh_n, Option.bind_some, G_1107, G_505, e_iload_n_1, e_call_2, e_if_ne, e_iconst_m1, R_141, T_141_23, B_141_23, G_506, e_iaload, e_istore_n_2, clr_i, clr_l, clr_a, clr_n, G_1103, e_istore_n_3, e_iload_n_3, e_iconst_1, e_ishl, e_ixor, e_istore_4, e_iconst_0, e_istore_5, e_istore_6, e_gotow, T_141_54, e_iload_6, G_1102, G_1, e_ic_ge, e_iload_n_2, e_call_4, e_iload_4, e_ic_eq, e_iinc_5_1, T_141_104, B_141_104, e_iinc_6_1, e_goto, T_141_110, B_141_110, e_iload_5, kd_sI, ln_sI, hl_sI, gL_sI, gR_sI, kd_sL, ln_sL, hl_sL, gI_sL, gR_sL, kd_sR, ln_sR, hl_sR, gI_sR, gL_sR, kd_cpI, ln_cpI, hl_cpI, gL_cpI, gR_cpI, gI_cpI, gI_sI, gL_sL, gR_sR, St_sI, St_sL, St_cpI, Nat.reduceEqDiff, Nat.reduceAdd, eq_self, false_and, and_false, true_and, and_true, and_self, if_true, if_false, false_or, or_false, true_or, or_true, not_true_eq_false, not_false_eq_true, reduceIte, K_2, F_2_0, F_2_1, F_2_2, F_2_3, F_2_4, F_2_5, F_2_6, K_46, F_46_2, F_46_3, F_46_4, F_46_5, F_46_6, F_46_7, hS1, hS2, cN, (eq_false (by simp (disch := omega) only [nI_lit, nI_add, lt_nI, le_nI, eq_nI] <;> omega) : (nI (dN L) ≤ nI i) = False), e1, e2, c, e3, nI_1, List.length_nil, List.length_cons, Nat.zero_le]
    · have cf : (fun k => decide (¬ fol L b t k = fol L b2 t k)) i = true := decide_eq_true c
      obtain ⟨h4, e4, y4⟩ := q_addCase (k := i) m2.2 y2.2.2 (ll_len i) (μ := 6) (by omega)
      have hS4 := y4.2.1.1.1
      obtain ⟨h3, e3, y3⟩ := ih (i + 1) h4 y4.2.1 (by rw [ll_t cf]; exact y4.2.2) (by omega)
      rw [cnt_t cf] at e3
      refine ⟨h3, ?_, (y2.trans y4).trans y3⟩
      simp (disch := first | assumption | exact b2i_01 _ | decide | omega | (simp only [kd_sI, ln_sI, hl_sI, gL_sI, gR_sI, kd_sL, ln_sL, hl_sL, gI_sL, gR_sL, kd_sR, ln_sR, hl_sR, gI_sR, gL_sR, kd_cpI, ln_cpI, hl_cpI, gL_cpI, gR_cpI, gI_cpI, gI_sI, gL_sL, gR_sR, St_sI, St_sL, St_cpI, Nat.reduceEqDiff, Nat.reduceAdd, eq_self, false_and, and_false, true_and, and_true, and_self, if_true, if_false, false_or, or_false, true_or, or_true, not_true_eq_false, not_false_eq_true, reduceIte, K_2, F_2_0, F_2_1, F_2_2, F_2_3, F_2_4, F_2_5, F_2_6, K_46, F_46_2, F_46_3, F_46_4, F_46_5, F_46_6, F_46_7, hS, hS1, hS2, hS4, cN, (eq_false (by simp (disch := omega) only [nI_lit, nI_add, lt_nI, le_nI, eq_nI] <;> omega) : (nI (dN L) ≤ nI i) = False), e1, e2, e4, c, e3, nI_1, List.length_nil, List.length_cons, Nat.zero_le] <;> first | done | decide | omega | fail) | fail) only [B_141_0, e_aload_n_0, G_1106, e_call_1, psh_s, psh_n, Option.bind_some, G_1107, G_505, e_iload_n_1, e_call_2, e_if_ne, e_iconst_m1, R_141, T_141_23, B_141_23, G_506, e_iaload, e_istore_n_2, clr_i, clr_l, clr_a, clr_n, G_1103, e_istore_n_3, e_iload_n_3, e_iconst_1, e_ishl, e_ixor, e_istore_4, e_iconst_0, e_istore_5, e_istore_6, e_gotow, T_141_54, e_iload_6, G_1102, G_1, e_ic_ge, e_iload_n_2, e_call_4, e_iload_4, e_ic_eq, e_iinc_5_1, T_141_104, B_141_104, e_iinc_6_1, e_goto, T_141_110, B_141_110, e_iload_5, kd_sI, ln_sI, hl_sI, gL_sI, gR_sI, kd_sL, ln_sL, hl_sL, gI_sL, gR_sL, kd_sR, ln_sR, hl_sR, gI_sR, gL_sR, kd_cpI, ln_cpI, hl_cpI, gL_cpI, gR_cpI, gI_cpI, gI_sI, gL_sL, gR_sR, St_sI, St_sL, St_cpI, Nat.reduceEqDiff, Nat.reduceAdd, eq_self, false_and, and_false, true_and, and_true, and_self, if_true, if_false, false_or, or_false, true_or, or_true, not_true_eq_false, not_false_eq_true, reduceIte, K_2, F_2_0, F_2_1, F_2_2, F_2_3, F_2_4, F_2_5, F_2_6, K_46, F_46_2, F_46_3, F_46_4, F_46_5, F_46_6, F_46_7, hS1, hS2, hS4, cN, (eq_false (by simp (disch := omega) only [nI_lit, nI_add, lt_nI, le_nI, eq_nI] <;> omega) : (nI (dN L) ≤ nI i) = False), e1, e2, e4, c, e3, nI_1, List.length_nil, List.length_cons, Nat.zero_le]
theorem lp_GL_unlike {o p a t t2 : Nat} {L : LD} {b b2 x0 : Int32} (ht : t < 3) (ht2 : t2 < 3) : ∀ m i h, QI o p L h → LyC a (ll (fun k => decide (¬ fol L b t k = fol L b t2 k)) i) h → i + m = dN L → ∃ h', rn 164 6 B_164_51 [some (.ref 2), some (.int (nI t)), some (.int (nI t2)), some (.int b), some (.int (cnt (fun k => decide (¬ fol L b t k = fol L b t2 k)) i)), some (.int (nI i))] [] h = some (some (.int (cnt (fun k => decide (¬ fol L b t k = fol L b t2 k)) (dN L))), h') ∧ YC o p a L (ll (fun k => decide (¬ fol L b t k = fol L b t2 k)) (dN L)) h h' := by
  intro m
  induction m with
  | zero =>
    intro i h hI hY hi
    have hS := hI.1.1; have hB := hI.1.2.1; have hC := hI.1.2.2.1; have hM := hI.2.1; have hs := hI.2.2; have ho := hC.1.1; have hl := hC.1.2.1; have hl2 := hC.1.2.2.1; have hl3 := hC.1.2.2.2; have cT := hC.2.1.1; have cR := hC.2.1.2.1; have cC := hC.2.1.2.2.1; have cN := hC.2.1.2.2.2; have mT := hM.1.1; have mR := hM.1.2.1; have mC := hM.1.2.2.1; have mN := hM.1.2.2.2; have hb := hB.1; have e10 : ((1 : Int32) = 0) = False := by simp
    obtain rfl : i = dN L := by omega
    refine ⟨h, ?_, YC.memo hY (Mm.rf hI)⟩
    rw [B_164_51]
    simp (disch := first | assumption | exact b2i_01 _ | decide | omega | (simp only [kd_sI, ln_sI, hl_sI, gL_sI, gR_sI, kd_sL, ln_sL, hl_sL, gI_sL, gR_sL, kd_sR, ln_sR, hl_sR, gI_sR, gL_sR, kd_cpI, ln_cpI, hl_cpI, gL_cpI, gR_cpI, gI_cpI, gI_sI, gL_sL, gR_sR, St_sI, St_sL, St_cpI, Nat.reduceEqDiff, Nat.reduceAdd, eq_self, false_and, and_false, true_and, and_true, and_self, if_true, if_false, false_or, or_false, true_or, or_true, not_true_eq_false, not_false_eq_true, reduceIte, K_2, F_2_0, F_2_1, F_2_2, F_2_3, F_2_4, F_2_5, F_2_6, K_46, F_46_2, F_46_3, F_46_4, F_46_5, F_46_6, F_46_7, hS, cN, (eq_true (by simp (disch := omega) only [nI_lit, nI_add, lt_nI, le_nI, eq_nI] <;> omega) : (nI (dN L) ≤ nI (dN L)) = True)] <;> first | done | decide | omega | fail) | fail) only [B_164_0, e_aload_n_0, G_1106, e_call_1, psh_s, psh_n, Option.bind_some, G_1107, G_502, e_iload_n_1, e_call_2, e_if_eq, e_iload_n_2, e_if_ne, e_gotow, T_164_35, B_164_35, e_iconst_m1, R_164, T_164_37, B_164_37, G_1103, e_istore_n_3, clr_i, clr_l, clr_a, clr_n, e_iconst_0, e_istore_4, e_istore_5, T_164_51, e_iload_5, G_1102, G_1, e_ic_ge, e_iload_n_3, e_call_4, e_ic_eq, e_iinc_4_1, T_164_100, B_164_100, e_iinc_5_1, e_goto, T_164_106, B_164_106, e_iload_4, kd_sI, ln_sI, hl_sI, gL_sI, gR_sI, kd_sL, ln_sL, hl_sL, gI_sL, gR_sL, kd_sR, ln_sR, hl_sR, gI_sR, gL_sR, kd_cpI, ln_cpI, hl_cpI, gL_cpI, gR_cpI, gI_cpI, gI_sI, gL_sL, gR_sR, St_sI, St_sL, St_cpI, Nat.reduceEqDiff, Nat.reduceAdd, eq_self, false_and, and_false, true_and, and_true, and_self, if_true, if_false, false_or, or_false, true_or, or_true, not_true_eq_false, not_false_eq_true, reduceIte, K_2, F_2_0, F_2_1, F_2_2, F_2_3, F_2_4, F_2_5, F_2_6, K_46, F_46_2, F_46_3, F_46_4, F_46_5, F_46_6, F_46_7, cN, (eq_true (by simp (disch := omega) only [nI_lit, nI_add, lt_nI, le_nI, eq_nI] <;> omega) : (nI (dN L) ≤ nI (dN L)) = True)]
  | succ m ih =>
    intro i h hI hY hi
    have hS := hI.1.1; have hB := hI.1.2.1; have hC := hI.1.2.2.1; have hM := hI.2.1; have hs := hI.2.2; have ho := hC.1.1; have hl := hC.1.2.1; have hl2 := hC.1.2.2.1; have hl3 := hC.1.2.2.2; have cT := hC.2.1.1; have cR := hC.2.1.2.1; have cC := hC.2.1.2.2.1; have cN := hC.2.1.2.2.2; have mT := hM.1.1; have mR := hM.1.2.1; have mC := hM.1.2.2.1; have mN := hM.1.2.2.2; have hb := hB.1; have e10 : ((1 : Int32) = 0) = False := by simp
    obtain ⟨h1, e1, m1⟩ := q_out hI b ht (show i < dN L by omega) (μ := 6) (by omega)
    obtain ⟨h2, e2, m2⟩ := q_out m1.2 b ht2 (show i < dN L by omega) (μ := 6) (by omega)
    have m12 := m1.trans m2
    have y2 := YC.memo hY m12
    have hS1 := m1.2.1.1
    have hS2 := m2.2.1.1
    rw [B_164_51]
    by_cases c : fol L b t i = fol L b t2 i
    · have cf : (fun k => decide (¬ fol L b t k = fol L b t2 k)) i = false := decide_eq_false (fun z => z c)
      obtain ⟨h3, e3, y3⟩ := ih (i + 1) h2 m2.2 (by rw [ll_f cf]; exact y2.2.2) (by omega)
      rw [cnt_f cf] at e3
      refine ⟨h3, ?_, y2.trans y3⟩
      simp (disch := first | assumption | exact b2i_01 _ | decide | omega | (simp only [kd_sI, ln_sI, hl_sI, gL_sI, gR_sI, kd_sL, ln_sL, hl_sL, gI_sL, gR_sL, kd_sR, ln_sR, hl_sR, gI_sR, gL_sR, kd_cpI, ln_cpI, hl_cpI, gL_cpI, gR_cpI, gI_cpI, gI_sI, gL_sL, gR_sR, St_sI, St_sL, St_cpI, Nat.reduceEqDiff, Nat.reduceAdd, eq_self, false_and, and_false, true_and, and_true, and_self, if_true, if_false, false_or, or_false, true_or, or_true, not_true_eq_false, not_false_eq_true, reduceIte, K_2, F_2_0, F_2_1, F_2_2, F_2_3, F_2_4, F_2_5, F_2_6, K_46, F_46_2, F_46_3, F_46_4, F_46_5, F_46_6, F_46_7, hS, hS1, hS2, cN, (eq_false (by simp (disch := omega) only [nI_lit, nI_add, lt_nI, le_nI, eq_nI] <;> omega) : (nI (dN L) ≤ nI i) = False), e1, e2, c, e3, nI_1, List.length_nil, List.length_cons, Nat.zero_le] <;> first | done | decide | omega | fail) | fail) only [B_164_0, e_aload_n_0, G_1106, e_call_1, psh_s, psh_n, Option.bind_some, G_1107, G_502, e_iload_n_1, e_call_2, e_if_eq, e_iload_n_2, e_if_ne, e_gotow, T_164_35, B_164_35, e_iconst_m1, R_164, T_164_37, B_164_37, G_1103, e_istore_n_3, clr_i, clr_l, clr_a, clr_n, e_iconst_0, e_istore_4, e_istore_5, T_164_51, e_iload_5, G_1102, G_1, e_ic_ge, e_iload_n_3, e_call_4, e_ic_eq, e_iinc_4_1, T_164_100, B_164_100, e_iinc_5_1, e_goto, T_164_106, B_164_106, e_iload_4, kd_sI, ln_sI, hl_sI, gL_sI, gR_sI, kd_sL, ln_sL, hl_sL, gI_sL, gR_sL, kd_sR, ln_sR, hl_sR, gI_sR, gL_sR, kd_cpI, ln_cpI, hl_cpI, gL_cpI, gR_cpI, gI_cpI, gI_sI, gL_sL, gR_sR, St_sI, St_sL, St_cpI, Nat.reduceEqDiff, Nat.reduceAdd, eq_self, false_and, and_false, true_and, and_true, and_self, if_true, if_false, false_or, or_false, true_or, or_true, not_true_eq_false, not_false_eq_true, reduceIte, K_2, F_2_0, F_2_1, F_2_2, F_2_3, F_2_4, F_2_5, F_2_6, K_46, F_46_2, F_46_3, F_46_4, F_46_5, F_46_6, F_46_7, hS1, hS2, cN, (eq_false (by simp (disch := omega) only [nI_lit, nI_add, lt_nI, le_nI, eq_nI] <;> omega) : (nI (dN L) ≤ nI i) = False), e1, e2, c, e3, nI_1, List.length_nil, List.length_cons, Nat.zero_le]
    · have cf : (fun k => decide (¬ fol L b t k = fol L b t2 k)) i = true := decide_eq_true c
      obtain ⟨h4, e4, y4⟩ := q_addCase (k := i) m2.2 y2.2.2 (ll_len i) (μ := 6) (by omega)
      have hS4 := y4.2.1.1.1
      obtain ⟨h3, e3, y3⟩ := ih (i + 1) h4 y4.2.1 (by rw [ll_t cf]; exact y4.2.2) (by omega)
      rw [cnt_t cf] at e3
      refine ⟨h3, ?_, (y2.trans y4).trans y3⟩
      simp (disch := first | assumption | exact b2i_01 _ | decide | omega | (simp only [kd_sI, ln_sI, hl_sI, gL_sI, gR_sI, kd_sL, ln_sL, hl_sL, gI_sL, gR_sL, kd_sR, ln_sR, hl_sR, gI_sR, gL_sR, kd_cpI, ln_cpI, hl_cpI, gL_cpI, gR_cpI, gI_cpI, gI_sI, gL_sL, gR_sR, St_sI, St_sL, St_cpI, Nat.reduceEqDiff, Nat.reduceAdd, eq_self, false_and, and_false, true_and, and_true, and_self, if_true, if_false, false_or, or_false, true_or, or_true, not_true_eq_false, not_false_eq_true, reduceIte, K_2, F_2_0, F_2_1, F_2_2, F_2_3, F_2_4, F_2_5, F_2_6, K_46, F_46_2, F_46_3, F_46_4, F_46_5, F_46_6, F_46_7, hS, hS1, hS2, hS4, cN, (eq_false (by simp (disch := omega) only [nI_lit, nI_add, lt_nI, le_nI, eq_nI] <;> omega) : (nI (dN L) ≤ nI i) = False), e1, e2, e4, c, e3, nI_1, List.length_nil, List.length_cons, Nat.zero_le] <;> first | done | decide | omega | fail) | fail) only [B_164_0, e_aload_n_0, G_1106, e_call_1, psh_s, psh_n, Option.bind_some, G_1107, G_502, e_iload_n_1, e_call_2, e_if_eq, e_iload_n_2, e_if_ne, e_gotow, T_164_35, B_164_35, e_iconst_m1, R_164, T_164_37, B_164_37, G_1103, e_istore_n_3, clr_i, clr_l, clr_a, clr_n, e_iconst_0, e_istore_4, e_istore_5, T_164_51, e_iload_5, G_1102, G_1, e_ic_ge, e_iload_n_3, e_call_4, e_ic_eq, e_iinc_4_1, T_164_100, B_164_100, e_iinc_5_1, e_goto, T_164_106, B_164_106, e_iload_4, kd_sI, ln_sI, hl_sI, gL_sI, gR_sI, kd_sL, ln_sL, hl_sL, gI_sL, gR_sL, kd_sR, ln_sR, hl_sR, gI_sR, gL_sR, kd_cpI, ln_cpI, hl_cpI, gL_cpI, gR_cpI, gI_cpI, gI_sI, gL_sL, gR_sR, St_sI, St_sL, St_cpI, Nat.reduceEqDiff, Nat.reduceAdd, eq_self, false_and, and_false, true_and, and_true, and_self, if_true, if_false, false_or, or_false, true_or, or_true, not_true_eq_false, not_false_eq_true, reduceIte, K_2, F_2_0, F_2_1, F_2_2, F_2_3, F_2_4, F_2_5, F_2_6, K_46, F_46_2, F_46_3, F_46_4, F_46_5, F_46_6, F_46_7, hS1, hS2, hS4, cN, (eq_false (by simp (disch := omega) only [nI_lit, nI_add, lt_nI, le_nI, eq_nI] <;> omega) : (nI (dN L) ≤ nI i) = False), e1, e2, e4, c, e3, nI_1, List.length_nil, List.length_cons, Nat.zero_le]
theorem lp_Mo_unlike {o p t t2 : Nat} {L : LD} {b : Int32} (ht : t < 3) (ht2 : t2 < 3) : ∀ m i h, QI o p L h → LyM (ll (fun k => decide (¬ fol L b t k = fol L b t2 k)) i) h → i + m = dN L → ∃ h', rn 305 6 B_305_34 [some (.ref 66), some (.int (nI t)), some (.int (nI t2)), some (.int b), some (.int (cnt (fun k => decide (¬ fol L b t k = fol L b t2 k)) i)), some (.int (nI i))] [] h = some (some (.int (cnt (fun k => decide (¬ fol L b t k = fol L b t2 k)) (dN L))), h') ∧ YM o p L (ll (fun k => decide (¬ fol L b t k = fol L b t2 k)) (dN L)) h h' := by
  intro m
  induction m with
  | zero =>
    intro i h hI hY hi
    have hS := hI.1.1; have hB := hI.1.2.1; have hC := hI.1.2.2.1; have hM := hI.2.1; have hs := hI.2.2; have ho := hC.1.1; have hl := hC.1.2.1; have hl2 := hC.1.2.2.1; have hl3 := hC.1.2.2.2; have cT := hC.2.1.1; have cR := hC.2.1.2.1; have cC := hC.2.1.2.2.1; have cN := hC.2.1.2.2.2; have mT := hM.1.1; have mR := hM.1.2.1; have mC := hM.1.2.2.1; have mN := hM.1.2.2.2; have hb := hB.1; have e10 : ((1 : Int32) = 0) = False := by simp
    obtain rfl : i = dN L := by omega
    refine ⟨h, ?_, Sm.rf h _, hI, hY⟩
    rw [B_305_34]
    simp (disch := first | assumption | exact b2i_01 _ | decide | omega | (simp only [kd_sI, ln_sI, hl_sI, gL_sI, gR_sI, kd_sL, ln_sL, hl_sL, gI_sL, gR_sL, kd_sR, ln_sR, hl_sR, gI_sR, gL_sR, kd_cpI, ln_cpI, hl_cpI, gL_cpI, gR_cpI, gI_cpI, gI_sI, gL_sL, gR_sR, St_sI, St_sL, St_cpI, Nat.reduceEqDiff, Nat.reduceAdd, eq_self, false_and, and_false, true_and, and_true, and_self, if_true, if_false, false_or, or_false, true_or, or_true, not_true_eq_false, not_false_eq_true, reduceIte, K_66, F_66_0, F_66_10, F_66_11, F_66_12, F_66_13, F_66_14, F_66_15, F_66_16, F_66_17, F_66_18, F_66_25, F_66_26, F_66_27, F_66_28, F_66_29, F_66_30, F_66_31, F_66_32, F_66_33, F_66_34, F_66_35, F_66_36, F_66_37, F_66_38, F_66_39, F_66_60, F_66_61, F_66_62, F_66_63, F_66_66, F_66_68, F_66_69, F_66_71, F_66_72, F_66_73, F_66_74, F_66_77, F_66_78, F_66_79, F_66_80, F_66_81, F_66_84, F_66_85, F_66_86, F_66_87, hS, mN, (eq_true (by simp (disch := omega) only [nI_lit, nI_add, lt_nI, le_nI, eq_nI] <;> omega) : (nI (dN L) ≤ nI (dN L)) = True)] <;> first | done | decide | omega | fail) | fail) only [B_305_0, e_aload_n_0, e_iconst_0, P_1267, e_iload_n_1, e_call_2, psh_s, psh_n, Option.bind_some, e_if_eq, e_iload_n_2, e_if_ne, e_gotow, T_305_21, B_305_21, e_iconst_m1, R_305, T_305_23, B_305_23, e_call_1, e_istore_n_3, clr_i, clr_l, clr_a, clr_n, e_istore_4, e_istore_5, T_305_34, e_iload_5, G_1258, e_ic_ge, e_iload_n_3, e_call_4, e_ic_ne, e_goto, T_305_65, B_305_65, G_1267, e_bipush_40, T_305_80, B_305_80, e_iinc_4_1, T_305_83, B_305_83, e_iinc_5_1, T_305_89, B_305_89, e_iload_4, kd_sI, ln_sI, hl_sI, gL_sI, gR_sI, kd_sL, ln_sL, hl_sL, gI_sL, gR_sL, kd_sR, ln_sR, hl_sR, gI_sR, gL_sR, kd_cpI, ln_cpI, hl_cpI, gL_cpI, gR_cpI, gI_cpI, gI_sI, gL_sL, gR_sR, St_sI, St_sL, St_cpI, Nat.reduceEqDiff, Nat.reduceAdd, eq_self, false_and, and_false, true_and, and_true, and_self, if_true, if_false, false_or, or_false, true_or, or_true, not_true_eq_false, not_false_eq_true, reduceIte, K_66, F_66_0, F_66_10, F_66_11, F_66_12, F_66_13, F_66_14, F_66_15, F_66_16, F_66_17, F_66_18, F_66_25, F_66_26, F_66_27, F_66_28, F_66_29, F_66_30, F_66_31, F_66_32, F_66_33, F_66_34, F_66_35, F_66_36, F_66_37, F_66_38, F_66_39, F_66_60, F_66_61, F_66_62, F_66_63, F_66_66, F_66_68, F_66_69, F_66_71, F_66_72, F_66_73, F_66_74, F_66_77, F_66_78, F_66_79, F_66_80, F_66_81, F_66_84, F_66_85, F_66_86, F_66_87, mN, (eq_true (by simp (disch := omega) only [nI_lit, nI_add, lt_nI, le_nI, eq_nI] <;> omega) : (nI (dN L) ≤ nI (dN L)) = True)]
  | succ m ih =>
    intro i h hI hY hi
    have hS := hI.1.1; have hB := hI.1.2.1; have hC := hI.1.2.2.1; have hM := hI.2.1; have hs := hI.2.2; have ho := hC.1.1; have hl := hC.1.2.1; have hl2 := hC.1.2.2.1; have hl3 := hC.1.2.2.2; have cT := hC.2.1.1; have cR := hC.2.1.2.1; have cC := hC.2.1.2.2.1; have cN := hC.2.1.2.2.2; have mT := hM.1.1; have mR := hM.1.2.1; have mC := hM.1.2.2.1; have mN := hM.1.2.2.2; have hb := hB.1; have e10 : ((1 : Int32) = 0) = False := by simp
    have e1 := q_fol hI b ht (show i < dN L by omega) (μ := 6) (by omega)
    have e2 := q_fol hI b ht2 (show i < dN L by omega) (μ := 6) (by omega)
    have yl := hY.1
    have hl := ll_len (P := fun k => decide (¬ fol L b t k = fol L b t2 k)) i
    rw [B_305_34]
    by_cases c : fol L b t i = fol L b t2 i
    · have cf : (fun k => decide (¬ fol L b t k = fol L b t2 k)) i = false := decide_eq_false (fun z => z c)
      obtain ⟨h3, e3, y3⟩ := ih (i + 1) h hI (by rw [ll_f cf]; exact hY) (by omega)
      rw [cnt_f cf] at e3
      refine ⟨h3, ?_, y3⟩
      simp (disch := first | assumption | exact b2i_01 _ | decide | omega | (simp only [kd_sI, ln_sI, hl_sI, gL_sI, gR_sI, kd_sL, ln_sL, hl_sL, gI_sL, gR_sL, kd_sR, ln_sR, hl_sR, gI_sR, gL_sR, kd_cpI, ln_cpI, hl_cpI, gL_cpI, gR_cpI, gI_cpI, gI_sI, gL_sL, gR_sR, St_sI, St_sL, St_cpI, Nat.reduceEqDiff, Nat.reduceAdd, eq_self, false_and, and_false, true_and, and_true, and_self, if_true, if_false, false_or, or_false, true_or, or_true, not_true_eq_false, not_false_eq_true, reduceIte, K_66, F_66_0, F_66_10, F_66_11, F_66_12, F_66_13, F_66_14, F_66_15, F_66_16, F_66_17, F_66_18, F_66_25, F_66_26, F_66_27, F_66_28, F_66_29, F_66_30, F_66_31, F_66_32, F_66_33, F_66_34, F_66_35, F_66_36, F_66_37, F_66_38, F_66_39, F_66_60, F_66_61, F_66_62, F_66_63, F_66_66, F_66_68, F_66_69, F_66_71, F_66_72, F_66_73, F_66_74, F_66_77, F_66_78, F_66_79, F_66_80, F_66_81, F_66_84, F_66_85, F_66_86, F_66_87, hS, mN, (eq_false (by simp (disch := omega) only [nI_lit, nI_add, lt_nI, le_nI, eq_nI] <;> omega) : (nI (dN L) ≤ nI i) = False), e1, e2, c, e3, nI_1, List.length_nil, List.length_cons, Nat.zero_le] <;> first | done | decide | omega | fail) | fail) only [B_305_0, e_aload_n_0, e_iconst_0, P_1267, e_iload_n_1, e_call_2, psh_s, psh_n, Option.bind_some, e_if_eq, e_iload_n_2, e_if_ne, e_gotow, T_305_21, B_305_21, e_iconst_m1, R_305, T_305_23, B_305_23, e_call_1, e_istore_n_3, clr_i, clr_l, clr_a, clr_n, e_istore_4, e_istore_5, T_305_34, e_iload_5, G_1258, e_ic_ge, e_iload_n_3, e_call_4, e_ic_ne, e_goto, T_305_65, B_305_65, G_1267, e_bipush_40, T_305_80, B_305_80, e_iinc_4_1, T_305_83, B_305_83, e_iinc_5_1, T_305_89, B_305_89, e_iload_4, kd_sI, ln_sI, hl_sI, gL_sI, gR_sI, kd_sL, ln_sL, hl_sL, gI_sL, gR_sL, kd_sR, ln_sR, hl_sR, gI_sR, gL_sR, kd_cpI, ln_cpI, hl_cpI, gL_cpI, gR_cpI, gI_cpI, gI_sI, gL_sL, gR_sR, St_sI, St_sL, St_cpI, Nat.reduceEqDiff, Nat.reduceAdd, eq_self, false_and, and_false, true_and, and_true, and_self, if_true, if_false, false_or, or_false, true_or, or_true, not_true_eq_false, not_false_eq_true, reduceIte, K_66, F_66_0, F_66_10, F_66_11, F_66_12, F_66_13, F_66_14, F_66_15, F_66_16, F_66_17, F_66_18, F_66_25, F_66_26, F_66_27, F_66_28, F_66_29, F_66_30, F_66_31, F_66_32, F_66_33, F_66_34, F_66_35, F_66_36, F_66_37, F_66_38, F_66_39, F_66_60, F_66_61, F_66_62, F_66_63, F_66_66, F_66_68, F_66_69, F_66_71, F_66_72, F_66_73, F_66_74, F_66_77, F_66_78, F_66_79, F_66_80, F_66_81, F_66_84, F_66_85, F_66_86, F_66_87, mN, (eq_false (by simp (disch := omega) only [nI_lit, nI_add, lt_nI, le_nI, eq_nI] <;> omega) : (nI (dN L) ≤ nI i) = False), e1, e2, c, e3, nI_1, List.length_nil, List.length_cons, Nat.zero_le]
    · have cf : (fun k => decide (¬ fol L b t k = fol L b t2 k)) i = true := decide_eq_true c
      by_cases d : (ll (fun k => decide (¬ fol L b t k = fol L b t2 k)) i).length < 40
      · obtain ⟨h4, e4, y4⟩ := q_lay (k := i) hI hY d (μ := 6) (by omega)
        have hS4 := y4.2.1.1.1
        obtain ⟨h3, e3, y3⟩ := ih (i + 1) h4 y4.2.1 (by rw [ll_t cf, if_pos d]; exact y4.2.2) (by omega)
        rw [cnt_t cf] at e3
        refine ⟨h3, ?_, y4.trans y3⟩
        have dd : ((40 : Int32) ≤ nI (ll (fun k => decide (¬ fol L b t k = fol L b t2 k)) i).length) = False := by
          rw [show (40 : Int32) = nI 40 from rfl, le_nI (by omega) (by omega)]; exact eq_false (by omega)
        simp (disch := first | assumption | exact b2i_01 _ | decide | omega | (simp only [kd_sI, ln_sI, hl_sI, gL_sI, gR_sI, kd_sL, ln_sL, hl_sL, gI_sL, gR_sL, kd_sR, ln_sR, hl_sR, gI_sR, gL_sR, kd_cpI, ln_cpI, hl_cpI, gL_cpI, gR_cpI, gI_cpI, gI_sI, gL_sL, gR_sR, St_sI, St_sL, St_cpI, Nat.reduceEqDiff, Nat.reduceAdd, eq_self, false_and, and_false, true_and, and_true, and_self, if_true, if_false, false_or, or_false, true_or, or_true, not_true_eq_false, not_false_eq_true, reduceIte, K_66, F_66_0, F_66_10, F_66_11, F_66_12, F_66_13, F_66_14, F_66_15, F_66_16, F_66_17, F_66_18, F_66_25, F_66_26, F_66_27, F_66_28, F_66_29, F_66_30, F_66_31, F_66_32, F_66_33, F_66_34, F_66_35, F_66_36, F_66_37, F_66_38, F_66_39, F_66_60, F_66_61, F_66_62, F_66_63, F_66_66, F_66_68, F_66_69, F_66_71, F_66_72, F_66_73, F_66_74, F_66_77, F_66_78, F_66_79, F_66_80, F_66_81, F_66_84, F_66_85, F_66_86, F_66_87, hS, hS4, mN, (eq_false (by simp (disch := omega) only [nI_lit, nI_add, lt_nI, le_nI, eq_nI] <;> omega) : (nI (dN L) ≤ nI i) = False), e1, e2, e4, yl, dd, c, e3, nI_1, List.length_nil, List.length_cons, Nat.zero_le] <;> first | done | decide | omega | fail) | fail) only [B_305_0, e_aload_n_0, e_iconst_0, P_1267, e_iload_n_1, e_call_2, psh_s, psh_n, Option.bind_some, e_if_eq, e_iload_n_2, e_if_ne, e_gotow, T_305_21, B_305_21, e_iconst_m1, R_305, T_305_23, B_305_23, e_call_1, e_istore_n_3, clr_i, clr_l, clr_a, clr_n, e_istore_4, e_istore_5, T_305_34, e_iload_5, G_1258, e_ic_ge, e_iload_n_3, e_call_4, e_ic_ne, e_goto, T_305_65, B_305_65, G_1267, e_bipush_40, T_305_80, B_305_80, e_iinc_4_1, T_305_83, B_305_83, e_iinc_5_1, T_305_89, B_305_89, e_iload_4, kd_sI, ln_sI, hl_sI, gL_sI, gR_sI, kd_sL, ln_sL, hl_sL, gI_sL, gR_sL, kd_sR, ln_sR, hl_sR, gI_sR, gL_sR, kd_cpI, ln_cpI, hl_cpI, gL_cpI, gR_cpI, gI_cpI, gI_sI, gL_sL, gR_sR, St_sI, St_sL, St_cpI, Nat.reduceEqDiff, Nat.reduceAdd, eq_self, false_and, and_false, true_and, and_true, and_self, if_true, if_false, false_or, or_false, true_or, or_true, not_true_eq_false, not_false_eq_true, reduceIte, K_66, F_66_0, F_66_10, F_66_11, F_66_12, F_66_13, F_66_14, F_66_15, F_66_16, F_66_17, F_66_18, F_66_25, F_66_26, F_66_27, F_66_28, F_66_29, F_66_30, F_66_31, F_66_32, F_66_33, F_66_34, F_66_35, F_66_36, F_66_37, F_66_38, F_66_39, F_66_60, F_66_61, F_66_62, F_66_63, F_66_66, F_66_68, F_66_69, F_66_71, F_66_72, F_66_73, F_66_74, F_66_77, F_66_78, F_66_79, F_66_80, F_66_81, F_66_84, F_66_85, F_66_86, F_66_87, hS4, mN, (eq_false (by simp (disch := omega) only [nI_lit, nI_add, lt_nI, le_nI, eq_nI] <;> omega) : (nI (dN L) ≤ nI i) = False), e1, e2, e4, yl, dd, c, e3, nI_1, List.length_nil, List.length_cons, Nat.zero_le]
      · obtain ⟨h3, e3, y3⟩ := ih (i + 1) h hI (by rw [ll_t cf, if_neg d]; exact hY) (by omega)
        rw [cnt_t cf] at e3
        refine ⟨h3, ?_, y3⟩
        have dd : ((40 : Int32) ≤ nI (ll (fun k => decide (¬ fol L b t k = fol L b t2 k)) i).length) = True := by
          rw [show (40 : Int32) = nI 40 from rfl, le_nI (by omega) (by omega)]; exact eq_true (by omega)
        simp (disch := first | assumption | exact b2i_01 _ | decide | omega | (simp only [kd_sI, ln_sI, hl_sI, gL_sI, gR_sI, kd_sL, ln_sL, hl_sL, gI_sL, gR_sL, kd_sR, ln_sR, hl_sR, gI_sR, gL_sR, kd_cpI, ln_cpI, hl_cpI, gL_cpI, gR_cpI, gI_cpI, gI_sI, gL_sL, gR_sR, St_sI, St_sL, St_cpI, Nat.reduceEqDiff, Nat.reduceAdd, eq_self, false_and, and_false, true_and, and_true, and_self, if_true, if_false, false_or, or_false, true_or, or_true, not_true_eq_false, not_false_eq_true, reduceIte, K_66, F_66_0, F_66_10, F_66_11, F_66_12, F_66_13, F_66_14, F_66_15, F_66_16, F_66_17, F_66_18, F_66_25, F_66_26, F_66_27, F_66_28, F_66_29, F_66_30, F_66_31, F_66_32, F_66_33, F_66_34, F_66_35, F_66_36, F_66_37, F_66_38, F_66_39, F_66_60, F_66_61, F_66_62, F_66_63, F_66_66, F_66_68, F_66_69, F_66_71, F_66_72, F_66_73, F_66_74, F_66_77, F_66_78, F_66_79, F_66_80, F_66_81, F_66_84, F_66_85, F_66_86, F_66_87, hS, mN, (eq_false (by simp (disch := omega) only [nI_lit, nI_add, lt_nI, le_nI, eq_nI] <;> omega) : (nI (dN L) ≤ nI i) = False), e1, e2, yl, dd, c, e3, nI_1, List.length_nil, List.length_cons, Nat.zero_le] <;> first | done | decide | omega | fail) | fail) only [B_305_0, e_aload_n_0, e_iconst_0, P_1267, e_iload_n_1, e_call_2, psh_s, psh_n, Option.bind_some, e_if_eq, e_iload_n_2, e_if_ne, e_gotow, T_305_21, B_305_21, e_iconst_m1, R_305, T_305_23, B_305_23, e_call_1, e_istore_n_3, clr_i, clr_l, clr_a, clr_n, e_istore_4, e_istore_5, T_305_34, e_iload_5, G_1258, e_ic_ge, e_iload_n_3, e_call_4, e_ic_ne, e_goto, T_305_65, B_305_65, G_1267, e_bipush_40, T_305_80, B_305_80, e_iinc_4_1, T_305_83, B_305_83, e_iinc_5_1, T_305_89, B_305_89, e_iload_4, kd_sI, ln_sI, hl_sI, gL_sI, gR_sI, kd_sL, ln_sL, hl_sL, gI_sL, gR_sL, kd_sR, ln_sR, hl_sR, gI_sR, gL_sR, kd_cpI, ln_cpI, hl_cpI, gL_cpI, gR_cpI, gI_cpI, gI_sI, gL_sL, gR_sR, St_sI, St_sL, St_cpI, Nat.reduceEqDiff, Nat.reduceAdd, eq_self, false_and, and_false, true_and, and_true, and_self, if_true, if_false, false_or, or_false, true_or, or_true, not_true_eq_false, not_false_eq_true, reduceIte, K_66, F_66_0, F_66_10, F_66_11, F_66_12, F_66_13, F_66_14, F_66_15, F_66_16, F_66_17, F_66_18, F_66_25, F_66_26, F_66_27, F_66_28, F_66_29, F_66_30, F_66_31, F_66_32, F_66_33, F_66_34, F_66_35, F_66_36, F_66_37, F_66_38, F_66_39, F_66_60, F_66_61, F_66_62, F_66_63, F_66_66, F_66_68, F_66_69, F_66_71, F_66_72, F_66_73, F_66_74, F_66_77, F_66_78, F_66_79, F_66_80, F_66_81, F_66_84, F_66_85, F_66_86, F_66_87, mN, (eq_false (by simp (disch := omega) only [nI_lit, nI_add, lt_nI, le_nI, eq_nI] <;> omega) : (nI (dN L) ≤ nI i) = False), e1, e2, yl, dd, c, e3, nI_1, List.length_nil, List.length_cons, Nat.zero_le]
theorem lp_Mo_fruit {o p t cc : Nat} {L : LD} {b b2 w : Int32} (hc : cc < dC L) (ht : dHome L cc = t) (ht3 : t < 3) (hw : (∀ k, k < dN L → fol L w t k = fol L b t k ∧ fol L (w &&& (one cc ^^^ -1)) t k = fol L b2 t k) ∨ (∀ k, k < dN L → fol L w t k = fol L b2 t k ∧ fol L (w &&& (one cc ^^^ -1)) t k = fol L b t k)) : ∀ m i h, QI o p L h → LyM (ll (fun k => decide (¬ fol L b t k = fol L b2 t k)) i) h → i + m = dN L → ∃ h', rn 286 6 B_286_29 [some (.ref 66), some (.int (nI cc)), some (.int w), some (.int (cnt (fun k => decide (¬ fol L b t k = fol L b2 t k)) i)), some (.int (nI i))] [] h = some (some (.int (cnt (fun k => decide (¬ fol L b t k = fol L b2 t k)) (dN L))), h') ∧ YM o p L (ll (fun k => decide (¬ fol L b t k = fol L b2 t k)) (dN L)) h h' := by
  intro m
  induction m with
  | zero =>
    intro i h hI hY hi
    have hS := hI.1.1; have hB := hI.1.2.1; have hC := hI.1.2.2.1; have hM := hI.2.1; have hs := hI.2.2; have ho := hC.1.1; have hl := hC.1.2.1; have hl2 := hC.1.2.2.1; have hl3 := hC.1.2.2.2; have cT := hC.2.1.1; have cR := hC.2.1.2.1; have cC := hC.2.1.2.2.1; have cN := hC.2.1.2.2.2; have mT := hM.1.1; have mR := hM.1.2.1; have mC := hM.1.2.2.1; have mN := hM.1.2.2.2; have hb := hB.1; have e10 : ((1 : Int32) = 0) = False := by simp
    obtain rfl : i = dN L := by omega
    refine ⟨h, ?_, Sm.rf h _, hI, hY⟩
    rw [B_286_29]
    simp (disch := first | assumption | exact b2i_01 _ | decide | omega | (simp only [kd_sI, ln_sI, hl_sI, gL_sI, gR_sI, kd_sL, ln_sL, hl_sL, gI_sL, gR_sL, kd_sR, ln_sR, hl_sR, gI_sR, gL_sR, kd_cpI, ln_cpI, hl_cpI, gL_cpI, gR_cpI, gI_cpI, gI_sI, gL_sL, gR_sR, St_sI, St_sL, St_cpI, Nat.reduceEqDiff, Nat.reduceAdd, eq_self, false_and, and_false, true_and, and_true, and_self, if_true, if_false, false_or, or_false, true_or, or_true, not_true_eq_false, not_false_eq_true, reduceIte, K_66, F_66_0, F_66_10, F_66_11, F_66_12, F_66_13, F_66_14, F_66_15, F_66_16, F_66_17, F_66_18, F_66_25, F_66_26, F_66_27, F_66_28, F_66_29, F_66_30, F_66_31, F_66_32, F_66_33, F_66_34, F_66_35, F_66_36, F_66_37, F_66_38, F_66_39, F_66_60, F_66_61, F_66_62, F_66_63, F_66_66, F_66_68, F_66_69, F_66_71, F_66_72, F_66_73, F_66_74, F_66_77, F_66_78, F_66_79, F_66_80, F_66_81, F_66_84, F_66_85, F_66_86, F_66_87, hS, mN, (eq_true (by simp (disch := omega) only [nI_lit, nI_add, lt_nI, le_nI, eq_nI] <;> omega) : (nI (dN L) ≤ nI (dN L)) = True)] <;> first | done | decide | omega | fail) | fail) only [B_286_0, e_aload_n_0, e_iconst_0, P_1267, e_iload_n_1, e_call_2, psh_s, psh_n, Option.bind_some, e_if_ne, e_iconst_m1, R_286, T_286_15, B_286_15, e_call_1, e_iconst_1, e_ishl, e_ior, e_istore_n_2, clr_i, clr_l, clr_a, clr_n, e_istore_n_3, e_istore_4, e_gotow, T_286_29, e_iload_4, G_1258, e_ic_ge, e_iload_n_2, G_1234, e_iaload, e_call_4, e_ixor, e_iand, e_ic_ne, e_goto, T_286_76, B_286_76, G_1267, e_bipush_40, T_286_91, B_286_91, e_iinc_3_1, T_286_94, B_286_94, e_iinc_4_1, T_286_100, B_286_100, e_iload_n_3, kd_sI, ln_sI, hl_sI, gL_sI, gR_sI, kd_sL, ln_sL, hl_sL, gI_sL, gR_sL, kd_sR, ln_sR, hl_sR, gI_sR, gL_sR, kd_cpI, ln_cpI, hl_cpI, gL_cpI, gR_cpI, gI_cpI, gI_sI, gL_sL, gR_sR, St_sI, St_sL, St_cpI, Nat.reduceEqDiff, Nat.reduceAdd, eq_self, false_and, and_false, true_and, and_true, and_self, if_true, if_false, false_or, or_false, true_or, or_true, not_true_eq_false, not_false_eq_true, reduceIte, K_66, F_66_0, F_66_10, F_66_11, F_66_12, F_66_13, F_66_14, F_66_15, F_66_16, F_66_17, F_66_18, F_66_25, F_66_26, F_66_27, F_66_28, F_66_29, F_66_30, F_66_31, F_66_32, F_66_33, F_66_34, F_66_35, F_66_36, F_66_37, F_66_38, F_66_39, F_66_60, F_66_61, F_66_62, F_66_63, F_66_66, F_66_68, F_66_69, F_66_71, F_66_72, F_66_73, F_66_74, F_66_77, F_66_78, F_66_79, F_66_80, F_66_81, F_66_84, F_66_85, F_66_86, F_66_87, mN, (eq_true (by simp (disch := omega) only [nI_lit, nI_add, lt_nI, le_nI, eq_nI] <;> omega) : (nI (dN L) ≤ nI (dN L)) = True)]
  | succ m ih =>
    intro i h hI hY hi
    have hS := hI.1.1; have hB := hI.1.2.1; have hC := hI.1.2.2.1; have hM := hI.2.1; have hs := hI.2.2; have ho := hC.1.1; have hl := hC.1.2.1; have hl2 := hC.1.2.2.1; have hl3 := hC.1.2.2.2; have cT := hC.2.1.1; have cR := hC.2.1.2.1; have cC := hC.2.1.2.2.1; have cN := hC.2.1.2.2.2; have mT := hM.1.1; have mR := hM.1.2.1; have mC := hM.1.2.2.1; have mN := hM.1.2.2.2; have hb := hB.1; have e10 : ((1 : Int32) = 0) = False := by simp
    have e1 := q_fol hI w ht3 (show i < dN L by omega) (μ := 6) (by omega)
    have e2 := q_fol hI (w &&& (one cc ^^^ -1)) ht3 (show i < dN L by omega) (μ := 6) (by omega)
    have bc : inBd (nI cc) 12 = true := inBd_nI (by omega) (by omega)
    have tc := tc_nI (show cc < 2147483648 by omega)
    have eh := (hM.2.2.2.1 cc hc).1
    rw [ht] at eh
    have yl := hY.1
    have hl := ll_len (P := fun k => decide (¬ fol L b t k = fol L b2 t k)) i
    have key : (fol L w t i = fol L (w &&& (one cc ^^^ -1)) t i) = (fol L b t i = fol L b2 t i) := by
      rcases hw with q | q
      · obtain ⟨q1, q2⟩ := q i (by omega)
        rw [q1, q2]
      · obtain ⟨q1, q2⟩ := q i (by omega)
        rw [q1, q2]
        exact propext eq_comm
    unfold one at key e2
    rw [B_286_29]
    by_cases c : fol L b t i = fol L b2 t i
    · have cf : (fun k => decide (¬ fol L b t k = fol L b2 t k)) i = false := decide_eq_false (fun z => z c)
      obtain ⟨h3, e3, y3⟩ := ih (i + 1) h hI (by rw [ll_f cf]; exact hY) (by omega)
      rw [cnt_f cf] at e3
      refine ⟨h3, ?_, y3⟩
      simp (disch := first | assumption | exact b2i_01 _ | decide | omega | (simp only [kd_sI, ln_sI, hl_sI, gL_sI, gR_sI, kd_sL, ln_sL, hl_sL, gI_sL, gR_sL, kd_sR, ln_sR, hl_sR, gI_sR, gL_sR, kd_cpI, ln_cpI, hl_cpI, gL_cpI, gR_cpI, gI_cpI, gI_sI, gL_sL, gR_sR, St_sI, St_sL, St_cpI, Nat.reduceEqDiff, Nat.reduceAdd, eq_self, false_and, and_false, true_and, and_true, and_self, if_true, if_false, false_or, or_false, true_or, or_true, not_true_eq_false, not_false_eq_true, reduceIte, K_66, F_66_0, F_66_10, F_66_11, F_66_12, F_66_13, F_66_14, F_66_15, F_66_16, F_66_17, F_66_18, F_66_25, F_66_26, F_66_27, F_66_28, F_66_29, F_66_30, F_66_31, F_66_32, F_66_33, F_66_34, F_66_35, F_66_36, F_66_37, F_66_38, F_66_39, F_66_60, F_66_61, F_66_62, F_66_63, F_66_66, F_66_68, F_66_69, F_66_71, F_66_72, F_66_73, F_66_74, F_66_77, F_66_78, F_66_79, F_66_80, F_66_81, F_66_84, F_66_85, F_66_86, F_66_87, K_86, N_86, hS, mN, (eq_false (by simp (disch := omega) only [nI_lit, nI_add, lt_nI, le_nI, eq_nI] <;> omega) : (nI (dN L) ≤ nI i) = False), bc, tc, eh, e1, e2, key, c, e3, nI_1, List.length_nil, List.length_cons, Nat.zero_le] <;> first | done | decide | omega | fail) | fail) only [B_286_0, e_aload_n_0, e_iconst_0, P_1267, e_iload_n_1, e_call_2, psh_s, psh_n, Option.bind_some, e_if_ne, e_iconst_m1, R_286, T_286_15, B_286_15, e_call_1, e_iconst_1, e_ishl, e_ior, e_istore_n_2, clr_i, clr_l, clr_a, clr_n, e_istore_n_3, e_istore_4, e_gotow, T_286_29, e_iload_4, G_1258, e_ic_ge, e_iload_n_2, G_1234, e_iaload, e_call_4, e_ixor, e_iand, e_ic_ne, e_goto, T_286_76, B_286_76, G_1267, e_bipush_40, T_286_91, B_286_91, e_iinc_3_1, T_286_94, B_286_94, e_iinc_4_1, T_286_100, B_286_100, e_iload_n_3, kd_sI, ln_sI, hl_sI, gL_sI, gR_sI, kd_sL, ln_sL, hl_sL, gI_sL, gR_sL, kd_sR, ln_sR, hl_sR, gI_sR, gL_sR, kd_cpI, ln_cpI, hl_cpI, gL_cpI, gR_cpI, gI_cpI, gI_sI, gL_sL, gR_sR, St_sI, St_sL, St_cpI, Nat.reduceEqDiff, Nat.reduceAdd, eq_self, false_and, and_false, true_and, and_true, and_self, if_true, if_false, false_or, or_false, true_or, or_true, not_true_eq_false, not_false_eq_true, reduceIte, K_66, F_66_0, F_66_10, F_66_11, F_66_12, F_66_13, F_66_14, F_66_15, F_66_16, F_66_17, F_66_18, F_66_25, F_66_26, F_66_27, F_66_28, F_66_29, F_66_30, F_66_31, F_66_32, F_66_33, F_66_34, F_66_35, F_66_36, F_66_37, F_66_38, F_66_39, F_66_60, F_66_61, F_66_62, F_66_63, F_66_66, F_66_68, F_66_69, F_66_71, F_66_72, F_66_73, F_66_74, F_66_77, F_66_78, F_66_79, F_66_80, F_66_81, F_66_84, F_66_85, F_66_86, F_66_87, K_86, N_86, mN, (eq_false (by simp (disch := omega) only [nI_lit, nI_add, lt_nI, le_nI, eq_nI] <;> omega) : (nI (dN L) ≤ nI i) = False), bc, tc, eh, e1, e2, key, c, e3, nI_1, List.length_nil, List.length_cons, Nat.zero_le]
    · have cf : (fun k => decide (¬ fol L b t k = fol L b2 t k)) i = true := decide_eq_true c
      by_cases d : (ll (fun k => decide (¬ fol L b t k = fol L b2 t k)) i).length < 40
      · obtain ⟨h4, e4, y4⟩ := q_lay (k := i) hI hY d (μ := 6) (by omega)
        have hS4 := y4.2.1.1.1
        obtain ⟨h3, e3, y3⟩ := ih (i + 1) h4 y4.2.1 (by rw [ll_t cf, if_pos d]; exact y4.2.2) (by omega)
        rw [cnt_t cf] at e3
        refine ⟨h3, ?_, y4.trans y3⟩
        have dd : ((40 : Int32) ≤ nI (ll (fun k => decide (¬ fol L b t k = fol L b2 t k)) i).length) = False := by
          rw [show (40 : Int32) = nI 40 from rfl, le_nI (by omega) (by omega)]; exact eq_false (by omega)
        simp (disch := first | assumption | exact b2i_01 _ | decide | omega | (simp only [kd_sI, ln_sI, hl_sI, gL_sI, gR_sI, kd_sL, ln_sL, hl_sL, gI_sL, gR_sL, kd_sR, ln_sR, hl_sR, gI_sR, gL_sR, kd_cpI, ln_cpI, hl_cpI, gL_cpI, gR_cpI, gI_cpI, gI_sI, gL_sL, gR_sR, St_sI, St_sL, St_cpI, Nat.reduceEqDiff, Nat.reduceAdd, eq_self, false_and, and_false, true_and, and_true, and_self, if_true, if_false, false_or, or_false, true_or, or_true, not_true_eq_false, not_false_eq_true, reduceIte, K_66, F_66_0, F_66_10, F_66_11, F_66_12, F_66_13, F_66_14, F_66_15, F_66_16, F_66_17, F_66_18, F_66_25, F_66_26, F_66_27, F_66_28, F_66_29, F_66_30, F_66_31, F_66_32, F_66_33, F_66_34, F_66_35, F_66_36, F_66_37, F_66_38, F_66_39, F_66_60, F_66_61, F_66_62, F_66_63, F_66_66, F_66_68, F_66_69, F_66_71, F_66_72, F_66_73, F_66_74, F_66_77, F_66_78, F_66_79, F_66_80, F_66_81, F_66_84, F_66_85, F_66_86, F_66_87, K_86, N_86, hS, hS4, mN, (eq_false (by simp (disch := omega) only [nI_lit, nI_add, lt_nI, le_nI, eq_nI] <;> omega) : (nI (dN L) ≤ nI i) = False), bc, tc, eh, e1, e2, key, e4, yl, dd, c, e3, nI_1, List.length_nil, List.length_cons, Nat.zero_le] <;> first | done | decide | omega | fail) | fail) only [B_286_0, e_aload_n_0, e_iconst_0, P_1267, e_iload_n_1, e_call_2, psh_s, psh_n, Option.bind_some, e_if_ne, e_iconst_m1, R_286, T_286_15, B_286_15, e_call_1, e_iconst_1, e_ishl, e_ior, e_istore_n_2, clr_i, clr_l, clr_a, clr_n, e_istore_n_3, e_istore_4, e_gotow, T_286_29, e_iload_4, G_1258, e_ic_ge, e_iload_n_2, G_1234, e_iaload, e_call_4, e_ixor, e_iand, e_ic_ne, e_goto, T_286_76, B_286_76, G_1267, e_bipush_40, T_286_91, B_286_91, e_iinc_3_1, T_286_94, B_286_94, e_iinc_4_1, T_286_100, B_286_100, e_iload_n_3, kd_sI, ln_sI, hl_sI, gL_sI, gR_sI, kd_sL, ln_sL, hl_sL, gI_sL, gR_sL, kd_sR, ln_sR, hl_sR, gI_sR, gL_sR, kd_cpI, ln_cpI, hl_cpI, gL_cpI, gR_cpI, gI_cpI, gI_sI, gL_sL, gR_sR, St_sI, St_sL, St_cpI, Nat.reduceEqDiff, Nat.reduceAdd, eq_self, false_and, and_false, true_and, and_true, and_self, if_true, if_false, false_or, or_false, true_or, or_true, not_true_eq_false, not_false_eq_true, reduceIte, K_66, F_66_0, F_66_10, F_66_11, F_66_12, F_66_13, F_66_14, F_66_15, F_66_16, F_66_17, F_66_18, F_66_25, F_66_26, F_66_27, F_66_28, F_66_29, F_66_30, F_66_31, F_66_32, F_66_33, F_66_34, F_66_35, F_66_36, F_66_37, F_66_38, F_66_39, F_66_60, F_66_61, F_66_62, F_66_63, F_66_66, F_66_68, F_66_69, F_66_71, F_66_72, F_66_73, F_66_74, F_66_77, F_66_78, F_66_79, F_66_80, F_66_81, F_66_84, F_66_85, F_66_86, F_66_87, K_86, N_86, hS4, mN, (eq_false (by simp (disch := omega) only [nI_lit, nI_add, lt_nI, le_nI, eq_nI] <;> omega) : (nI (dN L) ≤ nI i) = False), bc, tc, eh, e1, e2, key, e4, yl, dd, c, e3, nI_1, List.length_nil, List.length_cons, Nat.zero_le]
      · obtain ⟨h3, e3, y3⟩ := ih (i + 1) h hI (by rw [ll_t cf, if_neg d]; exact hY) (by omega)
        rw [cnt_t cf] at e3
        refine ⟨h3, ?_, y3⟩
        have dd : ((40 : Int32) ≤ nI (ll (fun k => decide (¬ fol L b t k = fol L b2 t k)) i).length) = True := by
          rw [show (40 : Int32) = nI 40 from rfl, le_nI (by omega) (by omega)]; exact eq_true (by omega)
        simp (disch := first | assumption | exact b2i_01 _ | decide | omega | (simp only [kd_sI, ln_sI, hl_sI, gL_sI, gR_sI, kd_sL, ln_sL, hl_sL, gI_sL, gR_sL, kd_sR, ln_sR, hl_sR, gI_sR, gL_sR, kd_cpI, ln_cpI, hl_cpI, gL_cpI, gR_cpI, gI_cpI, gI_sI, gL_sL, gR_sR, St_sI, St_sL, St_cpI, Nat.reduceEqDiff, Nat.reduceAdd, eq_self, false_and, and_false, true_and, and_true, and_self, if_true, if_false, false_or, or_false, true_or, or_true, not_true_eq_false, not_false_eq_true, reduceIte, K_66, F_66_0, F_66_10, F_66_11, F_66_12, F_66_13, F_66_14, F_66_15, F_66_16, F_66_17, F_66_18, F_66_25, F_66_26, F_66_27, F_66_28, F_66_29, F_66_30, F_66_31, F_66_32, F_66_33, F_66_34, F_66_35, F_66_36, F_66_37, F_66_38, F_66_39, F_66_60, F_66_61, F_66_62, F_66_63, F_66_66, F_66_68, F_66_69, F_66_71, F_66_72, F_66_73, F_66_74, F_66_77, F_66_78, F_66_79, F_66_80, F_66_81, F_66_84, F_66_85, F_66_86, F_66_87, K_86, N_86, hS, mN, (eq_false (by simp (disch := omega) only [nI_lit, nI_add, lt_nI, le_nI, eq_nI] <;> omega) : (nI (dN L) ≤ nI i) = False), bc, tc, eh, e1, e2, key, yl, dd, c, e3, nI_1, List.length_nil, List.length_cons, Nat.zero_le] <;> first | done | decide | omega | fail) | fail) only [B_286_0, e_aload_n_0, e_iconst_0, P_1267, e_iload_n_1, e_call_2, psh_s, psh_n, Option.bind_some, e_if_ne, e_iconst_m1, R_286, T_286_15, B_286_15, e_call_1, e_iconst_1, e_ishl, e_ior, e_istore_n_2, clr_i, clr_l, clr_a, clr_n, e_istore_n_3, e_istore_4, e_gotow, T_286_29, e_iload_4, G_1258, e_ic_ge, e_iload_n_2, G_1234, e_iaload, e_call_4, e_ixor, e_iand, e_ic_ne, e_goto, T_286_76, B_286_76, G_1267, e_bipush_40, T_286_91, B_286_91, e_iinc_3_1, T_286_94, B_286_94, e_iinc_4_1, T_286_100, B_286_100, e_iload_n_3, kd_sI, ln_sI, hl_sI, gL_sI, gR_sI, kd_sL, ln_sL, hl_sL, gI_sL, gR_sL, kd_sR, ln_sR, hl_sR, gI_sR, gL_sR, kd_cpI, ln_cpI, hl_cpI, gL_cpI, gR_cpI, gI_cpI, gI_sI, gL_sL, gR_sR, St_sI, St_sL, St_cpI, Nat.reduceEqDiff, Nat.reduceAdd, eq_self, false_and, and_false, true_and, and_true, and_self, if_true, if_false, false_or, or_false, true_or, or_true, not_true_eq_false, not_false_eq_true, reduceIte, K_66, F_66_0, F_66_10, F_66_11, F_66_12, F_66_13, F_66_14, F_66_15, F_66_16, F_66_17, F_66_18, F_66_25, F_66_26, F_66_27, F_66_28, F_66_29, F_66_30, F_66_31, F_66_32, F_66_33, F_66_34, F_66_35, F_66_36, F_66_37, F_66_38, F_66_39, F_66_60, F_66_61, F_66_62, F_66_63, F_66_66, F_66_68, F_66_69, F_66_71, F_66_72, F_66_73, F_66_74, F_66_77, F_66_78, F_66_79, F_66_80, F_66_81, F_66_84, F_66_85, F_66_86, F_66_87, K_86, N_86, mN, (eq_false (by simp (disch := omega) only [nI_lit, nI_add, lt_nI, le_nI, eq_nI] <;> omega) : (nI (dN L) ≤ nI i) = False), bc, tc, eh, e1, e2, key, yl, dd, c, e3, nI_1, List.length_nil, List.length_cons, Nat.zero_le]
