/-! the class reads a formula -/
def cdo (s : Int32 × Int32) : Int32 := if s.1 = 0 then s.2 else if s.1 = 1 then 10000 + s.2 else if s.1 = 2 then 20033 else 20000 + s.2
def WF (o : Nat) : WL := [(43, some 2), (43, some 3), (43, some 4), (43, some 5), (43, some 6), (45, some 3), (45, some 4), (45, some 5), (o + 15, some 1), (o + 15, some 5), (o + 16, none)]
theorem stb_WF {o : Nat} (ho : Oo o) : RTB.all (fun q => !wr (WF o) q.1 q.2.1) = true := by
  rcases ho with rfl | rfl <;> decide +kernel
def GC (x : Txt) (N : List Int64) (o : Nat) (pre : List (Int32 × Int32)) (q : Qs) (h : MH) : Prop :=
  St h ∧ TpC x h ∧ TokC (tks x (qi q)) h ∧ (gI h 45 4 = 0 ∧ gI h 45 5 = -1 ∧ gR h 45 1 = .ref o ∧ gI h (o + 15) 5 = nI (qu q) ∧ gI h 45 3 = nI (qo q)) ∧ (gI h (o + 15) 1 = nI (pre.length + (qs q).length) ∧ ∀ j s, (pre ++ qs q)[j]? = some s → gI h (o + 16) j = cdo s) ∧ NmC (o + 1) 4 N h ∧ ∀ i, i < 20 → gL h 1 i = rsv.getD i 0
def RdC (x : Txt) (N : List Int64) (o : Nat) (pre : List (Int32 × Int32)) (q : Qs) (h : MH) : Prop := (qf q = 0 ∧ GC x N o pre q h) ∨ (¬ qf q = 0 ∧ BC o (qf q) (tkS (tks x (qi q))) h)
theorem NmC.eq {a M : Nat} {N : List Int64} {h h' : MH} (hN : NmC a M N h) (e : h'.1 = h.1) (e1 : gR h' a 0 = gR h a 0) (e2 : gI h' a 1 = gI h a 1) (e3 : ∀ j, gL h' (a + 1) j = gL h (a + 1) j) : NmC a M N h' := by
  obtain ⟨⟨k1, k2, k3, k4, k5, k6⟩, n1, n2, n3⟩ := hN
  have kk : ∀ y, kd h' y = kd h y := fun y => by unfold kd; rw [e]
  have ll : ∀ y, ln h' y = ln h y := fun y => by unfold ln; rw [e]
  exact ⟨⟨by rw [kk]; exact k1, k2, by rw [e1]; exact k3, by rw [kk]; exact k4, by rw [ll]; exact k5, k6⟩, n1, by rw [e2]; exact n2, fun j w hw => by rw [e3]; exact n3 j w hw⟩
theorem GC.step {x : Txt} {N : List Int64} {o : Nat} {pre : List (Int32 × Int32)} {q : Qs} {h : MH} (ho : Oo o) (hG : GC x N o pre q h) {μ : Nat} (hμ : 5 < μ) : ∃ h', cal 44 [.ref 43] μ h = some (none, h') ∧ GC x N o pre (stq q) h' ∧ Sm h h' W43 := by
  obtain ⟨g1, g2, g3, ⟨g4, g5, g6, g7, g8⟩, ⟨g9, g10⟩, g11, g12⟩ := hG
  have hk := tks_5 g2.1 (qi q)
  obtain ⟨h', k1, k2, k3⟩ := s_Ta_step g1 g2 (tks_e g2.1 (qi q)) g3.2.2.1 (by
    rw [g3.1]
    intro z
    have := (eq_nI (a := tkK (tks x (qi q))) (b := 5) (by omega) (by omega)).mp z
    omega) hμ
  have hr := Oo_rng ho
  have I : ∀ {a k : Nat}, ¬ a = 43 → gI h' a k = gI h a k := fun {a k} w => k3.I (by
    unfold W43 wr wr1
    simp only [List.any_cons, List.any_nil, show (43 == a) = false by simpa using fun z : 43 = a => w z.symm, Bool.false_and, Bool.or_self])
  have L : ∀ {a k : Nat}, ¬ a = 43 → gL h' a k = gL h a k := fun {a k} w => k3.L (by
    unfold W43 wr wr1
    simp only [List.any_cons, List.any_nil, show (43 == a) = false by simpa using fun z : 43 = a => w z.symm, Bool.false_and, Bool.or_self])
  have R : ∀ {a k : Nat}, ¬ a = 43 → gR h' a k = gR h a k := fun {a k} w => k3.R (by
    unfold W43 wr wr1
    simp only [List.any_cons, List.any_nil, show (43 == a) = false by simpa using fun z : 43 = a => w z.symm, Bool.false_and, Bool.or_self])
  refine ⟨h', k1, ⟨k3.St g1 stb_43, g2.sm k3, k2, ⟨?_, ?_, ?_, ?_, ?_⟩, ⟨?_, ?_⟩, ?_, ?_⟩, k3⟩
  · rw [I (by omega)]; exact g4
  · rw [I (by omega)]; exact g5
  · rw [R (by omega)]; exact g6
  · rw [I (by omega)]; exact g7
  · rw [I (by omega)]; exact g8
  · rw [I (by omega)]; exact g9
  · intro j s hj; rw [I (by omega)]; exact g10 j s hj
  · exact g11.eq k3.1 (R (by omega)) (I (by omega)) (fun j => L (by omega))
  · intro i hi; rw [L (by omega)]; exact g12 i hi
theorem W43_WF {o : Nat} {h h' : MH} (s : Sm h h' W43) : Sm h h' (WF o) := s.mono (fun q hq => by
  unfold W43 at hq
  unfold WF
  simp only [List.mem_cons, List.not_mem_nil, or_false] at hq ⊢
  rcases hq with rfl | rfl | rfl | rfl | rfl <;> simp)
theorem WR_WF {o : Nat} {h h' : MH} (s : Sm h h' [(45, some 4), (45, some 5), (43, some 2)]) : Sm h h' (WF o) := s.mono (fun q hq => by
  unfold WF
  simp only [List.mem_cons, List.not_mem_nil, or_false] at hq ⊢
  rcases hq with rfl | rfl | rfl <;> simp)
theorem WA_WF {o : Nat} {h h' : MH} (s : Sm h h' [(o + 15, some 1), (o + 16, none)]) : Sm h h' (WF o) := s.mono (fun q hq => by
  unfold WF
  simp only [List.mem_cons, List.not_mem_nil, or_false] at hq ⊢
  rcases hq with rfl | rfl <;> simp)
theorem GC.refuse {x : Txt} {N : List Int64} {o : Nat} {pre : List (Int32 × Int32)} {q : Qs} {h : MH} (hG : GC x N o pre q h) (hf : qf q = 0) {c : Nat} (hc : 0 < c) (hc6 : c ≤ 6) {μ : Nat} (hμ : 3 < μ) : ∃ h', cal 57 [.ref 45, .int (nI c)] μ h = some (none, h') ∧ RdC x N o pre (bad x c q) h' ∧ BC o (qf (bad x c q)) (tkS (tks x (qi q))) h' ∧ Sm h h' (WF o) := by
  obtain ⟨g1, g2, g3, ⟨g4, g5, g6, g7, g8⟩, ⟨g9, g10⟩, g11, g12⟩ := hG
  obtain ⟨h', k1, k2, k3⟩ := s_Re_refuse g1 g3 (tks_5 g2.1 (qi q)) g4 g6 hc hc6 hμ
  exact ⟨h', k1, Or.inr ⟨bad_nz hc q, k2⟩, k2, WR_WF k3⟩
theorem s_Fo_add {o n L : Nat} {h : MH} (hS : St h) (ho : Oo o) (hL : gI h (o + 15) 1 = nI L) (hl : L < 640) (hn : n < 32768) {μ : Nat} (hμ : 3 < μ) : cal 84 [.ref (o + 15), .int (nI n)] μ h = some (none, sI (sI h (o + 16) L (nI n)) (o + 15) 1 (nI (L + 1))) := by
  have b : inBd (nI L) 640 = true := inBd_nI (by omega) (by omega)
  have t := tc_nI (show L < 2147483648 by omega)
  have i16 := i16_nI2 hn
  rw [C_84 (o + 15) _ μ h (KO_15 hS ho) (Oo_p 15 ho) hμ]
  rcases ho with rfl | rfl
  · simp (disch := first | assumption | exact b2i_01 _ | decide | omega | (simp only [kd_sI, ln_sI, hl_sI, gL_sI, gR_sI, kd_sL, ln_sL, hl_sL, gI_sL, gR_sL, kd_sR, ln_sR, hl_sR, gI_sR, gL_sR, kd_cpI, ln_cpI, hl_cpI, gL_cpI, gR_cpI, gI_cpI, gI_sI, gL_sL, gR_sR, St_sI, St_sL, St_cpI, Nat.reduceEqDiff, Nat.reduceAdd, eq_self, false_and, and_false, true_and, and_true, and_self, if_true, if_false, false_or, or_false, true_or, or_true, not_true_eq_false, not_false_eq_true, reduceIte, K_18, F_18_0, F_18_2, F_18_3, F_18_4, K_19, N_19, hS, b, t, i16, hL, nI_nneg (show L < 2147483648 by omega), (eq_false (by simp (disch := omega) only [nI_lit, nI_add, lt_nI, le_nI, eq_nI] <;> omega) : ((640 : Int32) ≤ nI L) = False), nI_1] <;> first | done | decide | omega | fail) | fail) only [B_84_0, e_aload_n_0, G_101, e_if_lt, e_sipush_640, e_ic_ge, G_100, e_iload_n_1, e_i2s, e_sastore, e_dup_i, e_dup_a, e_iconst_1, e_iadd, P_101, e_gotow, T_84_38, B_84_38, R_84, kd_sI, ln_sI, hl_sI, gL_sI, gR_sI, kd_sL, ln_sL, hl_sL, gI_sL, gR_sL, kd_sR, ln_sR, hl_sR, gI_sR, gL_sR, kd_cpI, ln_cpI, hl_cpI, gL_cpI, gR_cpI, gI_cpI, gI_sI, gL_sL, gR_sR, St_sI, St_sL, St_cpI, Nat.reduceEqDiff, Nat.reduceAdd, eq_self, false_and, and_false, true_and, and_true, and_self, if_true, if_false, false_or, or_false, true_or, or_true, not_true_eq_false, not_false_eq_true, reduceIte, K_18, F_18_0, F_18_2, F_18_3, F_18_4, K_19, N_19, b, t, i16, hL, nI_nneg (show L < 2147483648 by omega), (eq_false (by simp (disch := omega) only [nI_lit, nI_add, lt_nI, le_nI, eq_nI] <;> omega) : ((640 : Int32) ≤ nI L) = False), nI_1]
  · simp (disch := first | assumption | exact b2i_01 _ | decide | omega | (simp only [kd_sI, ln_sI, hl_sI, gL_sI, gR_sI, kd_sL, ln_sL, hl_sL, gI_sL, gR_sL, kd_sR, ln_sR, hl_sR, gI_sR, gL_sR, kd_cpI, ln_cpI, hl_cpI, gL_cpI, gR_cpI, gI_cpI, gI_sI, gL_sL, gR_sR, St_sI, St_sL, St_cpI, Nat.reduceEqDiff, Nat.reduceAdd, eq_self, false_and, and_false, true_and, and_true, and_self, if_true, if_false, false_or, or_false, true_or, or_true, not_true_eq_false, not_false_eq_true, reduceIte, K_38, F_38_0, F_38_2, F_38_3, F_38_4, K_39, N_39, hS, b, t, i16, hL, nI_nneg (show L < 2147483648 by omega), (eq_false (by simp (disch := omega) only [nI_lit, nI_add, lt_nI, le_nI, eq_nI] <;> omega) : ((640 : Int32) ≤ nI L) = False), nI_1] <;> first | done | decide | omega | fail) | fail) only [B_84_0, e_aload_n_0, G_101, e_if_lt, e_sipush_640, e_ic_ge, G_100, e_iload_n_1, e_i2s, e_sastore, e_dup_i, e_dup_a, e_iconst_1, e_iadd, P_101, e_gotow, T_84_38, B_84_38, R_84, kd_sI, ln_sI, hl_sI, gL_sI, gR_sI, kd_sL, ln_sL, hl_sL, gI_sL, gR_sL, kd_sR, ln_sR, hl_sR, gI_sR, gL_sR, kd_cpI, ln_cpI, hl_cpI, gL_cpI, gR_cpI, gI_cpI, gI_sI, gL_sL, gR_sR, St_sI, St_sL, St_cpI, Nat.reduceEqDiff, Nat.reduceAdd, eq_self, false_and, and_false, true_and, and_true, and_self, if_true, if_false, false_or, or_false, true_or, or_true, not_true_eq_false, not_false_eq_true, reduceIte, K_38, F_38_0, F_38_2, F_38_3, F_38_4, K_39, N_39, b, t, i16, hL, nI_nneg (show L < 2147483648 by omega), (eq_false (by simp (disch := omega) only [nI_lit, nI_add, lt_nI, le_nI, eq_nI] <;> omega) : ((640 : Int32) ≤ nI L) = False), nI_1]
theorem s_Fo_addB {o : Nat} {h : MH} (hS : St h) (ho : Oo o) (y : Int32) {μ : Nat} (hμ : 3 < μ) : ∃ h', cal 84 [.ref (o + 15), .int y] μ h = some (none, h') ∧ Sm h h' [(o + 15, some 1), (o + 16, none)] := by
  rw [C_84 (o + 15) _ μ h (KO_15 hS ho) (Oo_p 15 ho) hμ]
  rcases okB_cases (gI h (o + 15) 1) (n := 640) (by omega) with c | ⟨L, hl, e⟩
  · refine ⟨h, ?_, Sm.rf h _⟩
    rcases okB_out (n := 639) (by omega) c with d | ⟨d1, d2, d3⟩
    · rcases ho with rfl | rfl
      · simp (disch := first | assumption | exact b2i_01 _ | decide | omega | (simp only [kd_sI, ln_sI, hl_sI, gL_sI, gR_sI, kd_sL, ln_sL, hl_sL, gI_sL, gR_sL, kd_sR, ln_sR, hl_sR, gI_sR, gL_sR, kd_cpI, ln_cpI, hl_cpI, gL_cpI, gR_cpI, gI_cpI, gI_sI, gL_sL, gR_sR, St_sI, St_sL, St_cpI, Nat.reduceEqDiff, Nat.reduceAdd, eq_self, false_and, and_false, true_and, and_true, and_self, if_true, if_false, false_or, or_false, true_or, or_true, not_true_eq_false, not_false_eq_true, reduceIte, K_18, F_18_0, F_18_2, F_18_3, F_18_4, K_19, N_19, hS, d] <;> first | done | decide | omega | fail) | fail) only [B_84_0, e_aload_n_0, G_101, e_if_lt, e_sipush_640, e_ic_ge, G_100, e_iload_n_1, e_i2s, e_sastore, e_dup_i, e_dup_a, e_iconst_1, e_iadd, P_101, e_gotow, T_84_38, B_84_38, R_84, kd_sI, ln_sI, hl_sI, gL_sI, gR_sI, kd_sL, ln_sL, hl_sL, gI_sL, gR_sL, kd_sR, ln_sR, hl_sR, gI_sR, gL_sR, kd_cpI, ln_cpI, hl_cpI, gL_cpI, gR_cpI, gI_cpI, gI_sI, gL_sL, gR_sR, St_sI, St_sL, St_cpI, Nat.reduceEqDiff, Nat.reduceAdd, eq_self, false_and, and_false, true_and, and_true, and_self, if_true, if_false, false_or, or_false, true_or, or_true, not_true_eq_false, not_false_eq_true, reduceIte, K_18, F_18_0, F_18_2, F_18_3, F_18_4, K_19, N_19, d]
      · simp (disch := first | assumption | exact b2i_01 _ | decide | omega | (simp only [kd_sI, ln_sI, hl_sI, gL_sI, gR_sI, kd_sL, ln_sL, hl_sL, gI_sL, gR_sL, kd_sR, ln_sR, hl_sR, gI_sR, gL_sR, kd_cpI, ln_cpI, hl_cpI, gL_cpI, gR_cpI, gI_cpI, gI_sI, gL_sL, gR_sR, St_sI, St_sL, St_cpI, Nat.reduceEqDiff, Nat.reduceAdd, eq_self, false_and, and_false, true_and, and_true, and_self, if_true, if_false, false_or, or_false, true_or, or_true, not_true_eq_false, not_false_eq_true, reduceIte, K_38, F_38_0, F_38_2, F_38_3, F_38_4, K_39, N_39, hS, d] <;> first | done | decide | omega | fail) | fail) only [B_84_0, e_aload_n_0, G_101, e_if_lt, e_sipush_640, e_ic_ge, G_100, e_iload_n_1, e_i2s, e_sastore, e_dup_i, e_dup_a, e_iconst_1, e_iadd, P_101, e_gotow, T_84_38, B_84_38, R_84, kd_sI, ln_sI, hl_sI, gL_sI, gR_sI, kd_sL, ln_sL, hl_sL, gI_sL, gR_sL, kd_sR, ln_sR, hl_sR, gI_sR, gL_sR, kd_cpI, ln_cpI, hl_cpI, gL_cpI, gR_cpI, gI_cpI, gI_sI, gL_sL, gR_sR, St_sI, St_sL, St_cpI, Nat.reduceEqDiff, Nat.reduceAdd, eq_self, false_and, and_false, true_and, and_true, and_self, if_true, if_false, false_or, or_false, true_or, or_true, not_true_eq_false, not_false_eq_true, reduceIte, K_38, F_38_0, F_38_2, F_38_3, F_38_4, K_39, N_39, d]
    · have d4 : (640 : Int32) ≤ gI h (o + 15) 1 := by
        rw [Int32.lt_iff_toInt_lt, nI_toInt (by omega)] at d3
        rw [Int32.le_iff_toInt_le]
        have : (640 : Int32).toInt = 640 := by decide
        omega
      rcases ho with rfl | rfl
      · simp (disch := first | assumption | exact b2i_01 _ | decide | omega | (simp only [kd_sI, ln_sI, hl_sI, gL_sI, gR_sI, kd_sL, ln_sL, hl_sL, gI_sL, gR_sL, kd_sR, ln_sR, hl_sR, gI_sR, gL_sR, kd_cpI, ln_cpI, hl_cpI, gL_cpI, gR_cpI, gI_cpI, gI_sI, gL_sL, gR_sR, St_sI, St_sL, St_cpI, Nat.reduceEqDiff, Nat.reduceAdd, eq_self, false_and, and_false, true_and, and_true, and_self, if_true, if_false, false_or, or_false, true_or, or_true, not_true_eq_false, not_false_eq_true, reduceIte, K_18, F_18_0, F_18_2, F_18_3, F_18_4, K_19, N_19, hS, d1, d4] <;> first | done | decide | omega | fail) | fail) only [B_84_0, e_aload_n_0, G_101, e_if_lt, e_sipush_640, e_ic_ge, G_100, e_iload_n_1, e_i2s, e_sastore, e_dup_i, e_dup_a, e_iconst_1, e_iadd, P_101, e_gotow, T_84_38, B_84_38, R_84, kd_sI, ln_sI, hl_sI, gL_sI, gR_sI, kd_sL, ln_sL, hl_sL, gI_sL, gR_sL, kd_sR, ln_sR, hl_sR, gI_sR, gL_sR, kd_cpI, ln_cpI, hl_cpI, gL_cpI, gR_cpI, gI_cpI, gI_sI, gL_sL, gR_sR, St_sI, St_sL, St_cpI, Nat.reduceEqDiff, Nat.reduceAdd, eq_self, false_and, and_false, true_and, and_true, and_self, if_true, if_false, false_or, or_false, true_or, or_true, not_true_eq_false, not_false_eq_true, reduceIte, K_18, F_18_0, F_18_2, F_18_3, F_18_4, K_19, N_19, d1, d4]
      · simp (disch := first | assumption | exact b2i_01 _ | decide | omega | (simp only [kd_sI, ln_sI, hl_sI, gL_sI, gR_sI, kd_sL, ln_sL, hl_sL, gI_sL, gR_sL, kd_sR, ln_sR, hl_sR, gI_sR, gL_sR, kd_cpI, ln_cpI, hl_cpI, gL_cpI, gR_cpI, gI_cpI, gI_sI, gL_sL, gR_sR, St_sI, St_sL, St_cpI, Nat.reduceEqDiff, Nat.reduceAdd, eq_self, false_and, and_false, true_and, and_true, and_self, if_true, if_false, false_or, or_false, true_or, or_true, not_true_eq_false, not_false_eq_true, reduceIte, K_38, F_38_0, F_38_2, F_38_3, F_38_4, K_39, N_39, hS, d1, d4] <;> first | done | decide | omega | fail) | fail) only [B_84_0, e_aload_n_0, G_101, e_if_lt, e_sipush_640, e_ic_ge, G_100, e_iload_n_1, e_i2s, e_sastore, e_dup_i, e_dup_a, e_iconst_1, e_iadd, P_101, e_gotow, T_84_38, B_84_38, R_84, kd_sI, ln_sI, hl_sI, gL_sI, gR_sI, kd_sL, ln_sL, hl_sL, gI_sL, gR_sL, kd_sR, ln_sR, hl_sR, gI_sR, gL_sR, kd_cpI, ln_cpI, hl_cpI, gL_cpI, gR_cpI, gI_cpI, gI_sI, gL_sL, gR_sR, St_sI, St_sL, St_cpI, Nat.reduceEqDiff, Nat.reduceAdd, eq_self, false_and, and_false, true_and, and_true, and_self, if_true, if_false, false_or, or_false, true_or, or_true, not_true_eq_false, not_false_eq_true, reduceIte, K_38, F_38_0, F_38_2, F_38_3, F_38_4, K_39, N_39, d1, d4]
  · have b : inBd (nI L) 640 = true := inBd_nI (by omega) (by omega)
    have t := tc_nI (show L < 2147483648 by omega)
    refine ⟨sI (sI h (o + 16) L (y.toInt16.toInt32)) (o + 15) 1 (nI (L + 1)), ?_, ((Sm.rf h _).sI (by simp [wr, wr1])).sI (by simp [wr, wr1])⟩
    have i16 : (y.toInt16.toInt32).toInt16.toInt32 = y.toInt16.toInt32 := by simp
    rcases ho with rfl | rfl
    · simp (disch := first | assumption | exact b2i_01 _ | decide | omega | (simp only [kd_sI, ln_sI, hl_sI, gL_sI, gR_sI, kd_sL, ln_sL, hl_sL, gI_sL, gR_sL, kd_sR, ln_sR, hl_sR, gI_sR, gL_sR, kd_cpI, ln_cpI, hl_cpI, gL_cpI, gR_cpI, gI_cpI, gI_sI, gL_sL, gR_sR, St_sI, St_sL, St_cpI, Nat.reduceEqDiff, Nat.reduceAdd, eq_self, false_and, and_false, true_and, and_true, and_self, if_true, if_false, false_or, or_false, true_or, or_true, not_true_eq_false, not_false_eq_true, reduceIte, K_18, F_18_0, F_18_2, F_18_3, F_18_4, K_19, N_19, hS, b, t, i16, e, nI_nneg (show L < 2147483648 by omega), (eq_false (by simp (disch := omega) only [nI_lit, nI_add, lt_nI, le_nI, eq_nI] <;> omega) : ((640 : Int32) ≤ nI L) = False), nI_1] <;> first | done | decide | omega | fail) | fail) only [B_84_0, e_aload_n_0, G_101, e_if_lt, e_sipush_640, e_ic_ge, G_100, e_iload_n_1, e_i2s, e_sastore, e_dup_i, e_dup_a, e_iconst_1, e_iadd, P_101, e_gotow, T_84_38, B_84_38, R_84, kd_sI, ln_sI, hl_sI, gL_sI, gR_sI, kd_sL, ln_sL, hl_sL, gI_sL, gR_sL, kd_sR, ln_sR, hl_sR, gI_sR, gL_sR, kd_cpI, ln_cpI, hl_cpI, gL_cpI, gR_cpI, gI_cpI, gI_sI, gL_sL, gR_sR, St_sI, St_sL, St_cpI, Nat.reduceEqDiff, Nat.reduceAdd, eq_self, false_and, and_false, true_and, and_true, and_self, if_true, if_false, false_or, or_false, true_or, or_true, not_true_eq_false, not_false_eq_true, reduceIte, K_18, F_18_0, F_18_2, F_18_3, F_18_4, K_19, N_19, b, t, i16, e, nI_nneg (show L < 2147483648 by omega), (eq_false (by simp (disch := omega) only [nI_lit, nI_add, lt_nI, le_nI, eq_nI] <;> omega) : ((640 : Int32) ≤ nI L) = False), nI_1]
    · simp (disch := first | assumption | exact b2i_01 _ | decide | omega | (simp only [kd_sI, ln_sI, hl_sI, gL_sI, gR_sI, kd_sL, ln_sL, hl_sL, gI_sL, gR_sL, kd_sR, ln_sR, hl_sR, gI_sR, gL_sR, kd_cpI, ln_cpI, hl_cpI, gL_cpI, gR_cpI, gI_cpI, gI_sI, gL_sL, gR_sR, St_sI, St_sL, St_cpI, Nat.reduceEqDiff, Nat.reduceAdd, eq_self, false_and, and_false, true_and, and_true, and_self, if_true, if_false, false_or, or_false, true_or, or_true, not_true_eq_false, not_false_eq_true, reduceIte, K_38, F_38_0, F_38_2, F_38_3, F_38_4, K_39, N_39, hS, b, t, i16, e, nI_nneg (show L < 2147483648 by omega), (eq_false (by simp (disch := omega) only [nI_lit, nI_add, lt_nI, le_nI, eq_nI] <;> omega) : ((640 : Int32) ≤ nI L) = False), nI_1] <;> first | done | decide | omega | fail) | fail) only [B_84_0, e_aload_n_0, G_101, e_if_lt, e_sipush_640, e_ic_ge, G_100, e_iload_n_1, e_i2s, e_sastore, e_dup_i, e_dup_a, e_iconst_1, e_iadd, P_101, e_gotow, T_84_38, B_84_38, R_84, kd_sI, ln_sI, hl_sI, gL_sI, gR_sI, kd_sL, ln_sL, hl_sL, gI_sL, gR_sL, kd_sR, ln_sR, hl_sR, gI_sR, gL_sR, kd_cpI, ln_cpI, hl_cpI, gL_cpI, gR_cpI, gI_cpI, gI_sI, gL_sL, gR_sR, St_sI, St_sL, St_cpI, Nat.reduceEqDiff, Nat.reduceAdd, eq_self, false_and, and_false, true_and, and_true, and_self, if_true, if_false, false_or, or_false, true_or, or_true, not_true_eq_false, not_false_eq_true, reduceIte, K_38, F_38_0, F_38_2, F_38_3, F_38_4, K_39, N_39, b, t, i16, e, nI_nneg (show L < 2147483648 by omega), (eq_false (by simp (disch := omega) only [nI_lit, nI_add, lt_nI, le_nI, eq_nI] <;> omega) : ((640 : Int32) ≤ nI L) = False), nI_1]
theorem BC.sm {o c p : Nat} {h h' : MH} (hB : BC o c p h) (hS : St h') (s : ∀ a k, a = 45 ∨ a = 43 → gI h' a k = gI h a k ∧ gR h' a k = gR h a k) : BC o c p h' := by
  obtain ⟨b1, ⟨b2, b3, b4, b5, b6⟩, b7⟩ := hB
  exact ⟨hS, ⟨by rw [(s 45 4 (Or.inl rfl)).1]; exact b2, by rw [(s 45 5 (Or.inl rfl)).1]; exact b3, by rw [(s 43 2 (Or.inr rfl)).1]; exact b4, b5, b6⟩, by rw [(s 45 1 (Or.inl rfl)).2]; exact b7⟩
theorem WA_43 {o : Nat} (ho : Oo o) {h h' : MH} (s : Sm h h' [(o + 15, some 1), (o + 16, none)]) : ∀ a k, a = 45 ∨ a = 43 → gI h' a k = gI h a k ∧ gR h' a k = gR h a k := by
  intro a k ha
  have : wr [(o + 15, some 1), (o + 16, none)] a k = false := by
    rcases ho with rfl | rfl <;> rcases ha with rfl | rfl <;> rfl
  exact ⟨s.I this, s.R this⟩
theorem stb_WA {o : Nat} (ho : Oo o) : RTB.all (fun q => !wr [(o + 15, some 1), (o + 16, none)] q.1 q.2.1) = true := by
  rcases ho with rfl | rfl <;> decide +kernel
theorem BC.addop {o c p : Nat} {h : MH} (ho : Oo o) (hB : BC o c p h) (y : Int32) {μ : Nat} (hμ : 4 < μ) : ∃ h', cal 83 [.ref (o + 15), .int y] μ h = some (none, h') ∧ BC o c p h' ∧ Sm h h' (WF o) := by
  obtain ⟨h', k1, k2⟩ := s_Fo_addB hB.1 ho (20000 + y) (μ := 4) (by omega)
  have hS := hB.1
  refine ⟨h', ?_, hB.sm (k2.St hS (stb_WA ho)) (WA_43 ho k2), WA_WF k2⟩
  rw [C_83 (o + 15) _ μ h (KO_15 hS ho) (Oo_p 15 ho) hμ]
  simp only [B_83_0, e_aload_n_0, e_sipush_20000, e_iload_n_1, e_iadd, e_call_2, psh_s, psh_n, Option.bind_some, R_83, k1, List.length_nil, List.length_cons, Nat.zero_le]
theorem BC.addtr {o c p : Nat} {h : MH} (ho : Oo o) (hB : BC o c p h) (y : Int32) {μ : Nat} (hμ : 4 < μ) : ∃ h', cal 91 [.ref (o + 15), .int y] μ h = some (none, h') ∧ BC o c p h' ∧ Sm h h' (WF o) := by
  obtain ⟨h', k1, k2⟩ := s_Fo_addB hB.1 ho (10000 + y) (μ := 4) (by omega)
  have hS := hB.1
  refine ⟨h', ?_, hB.sm (k2.St hS (stb_WA ho)) (WA_43 ho k2), WA_WF k2⟩
  rw [C_91 (o + 15) _ μ h (KO_15 hS ho) (Oo_p 15 ho) hμ]
  simp only [B_91_0, e_aload_n_0, e_sipush_10000, e_iload_n_1, e_iadd, e_call_2, psh_s, psh_n, Option.bind_some, R_91, k1, List.length_nil, List.length_cons, Nat.zero_le]
theorem getElem?_snoc {α : Type} (l : List α) (a : α) (j : Nat) : (l ++ [a])[j]? = if j = l.length then some a else l[j]? := by
  by_cases c : j = l.length
  · rw [if_pos c, c, List.getElem?_append_right (Nat.le_refl _), Nat.sub_self]; rfl
  · rw [if_neg c]
    by_cases d : j < l.length
    · rw [List.getElem?_append_left d]
    · rw [List.getElem?_eq_none (by rw [List.length_append, List.length_singleton]; omega), List.getElem?_eq_none (by omega)]
/-- a code is put behind the others -/
theorem GC.put {x : Txt} {N : List Int64} {o : Nat} {pre : List (Int32 × Int32)} {q : Qs} {h : MH} (ho : Oo o) (hG : GC x N o pre q h) {a : Int32 × Int32} {n : Nat} (ha : cdo a = nI n) : GC x N o pre (qi q, 0, qu q, qo q, qs q ++ [a]) (sI (sI h (o + 16) (pre.length + (qs q).length) (nI n)) (o + 15) 1 (nI (pre.length + (qs q).length + 1))) ∧ Sm h (sI (sI h (o + 16) (pre.length + (qs q).length) (nI n)) (o + 15) 1 (nI (pre.length + (qs q).length + 1))) (WF o) := by
  obtain ⟨g1, g2, g3, ⟨g4, g5, g6, g7, g8⟩, ⟨g9, g10⟩, g11, g12⟩ := hG
  have s : Sm h (sI (sI h (o + 16) (pre.length + (qs q).length) (nI n)) (o + 15) 1 (nI (pre.length + (qs q).length + 1))) [(o + 15, some 1), (o + 16, none)] := ((Sm.rf h _).sI (by simp [wr, wr1])).sI (by simp [wr, wr1])
  have sw := WA_43 ho s
  have hr := Oo_rng ho
  have ne : ∀ {y : Nat}, ¬ y = o + 16 → ¬ y = o + 15 → ∀ k, gI (sI (sI h (o + 16) (pre.length + (qs q).length) (nI n)) (o + 15) 1 (nI (pre.length + (qs q).length + 1))) y k = gI h y k := by
    intro y h1 h2 k
    rw [gI_sI, if_neg (fun z => h2 z.1), gI_sI, if_neg (fun z => h1 z.1)]
  refine ⟨⟨s.St g1 (stb_WA ho), ⟨g2.1, ?_, ?_⟩, ⟨?_, ?_, ?_, ?_, ?_⟩, ⟨?_, ?_, ?_, ?_, ?_⟩, ⟨?_, ?_⟩, ?_, ?_⟩, WA_WF s⟩
  · rw [(sw 43 1 (Or.inr rfl)).1]; exact g2.2.1
  · intro i hi
    rw [ne (by omega) (by omega)]
    exact g2.2.2 i hi
  · rw [(sw 43 2 (Or.inr rfl)).1]; exact g3.1
  · rw [(sw 43 3 (Or.inr rfl)).1]; exact g3.2.1
  · rw [(sw 43 6 (Or.inr rfl)).1]; exact g3.2.2.1
  · intro z; rw [(sw 43 4 (Or.inr rfl)).1]; exact g3.2.2.2.1 z
  · intro z; exact g3.2.2.2.2 z
  · rw [(sw 45 4 (Or.inl rfl)).1]; exact g4
  · rw [(sw 45 5 (Or.inl rfl)).1]; exact g5
  · exact g6
  · rw [gI_sI, if_neg (fun z => absurd z.2 (by decide)), gI_sI, if_neg (fun z => absurd z.1 (by omega))]; exact g7
  · rw [(sw 45 3 (Or.inl rfl)).1]; exact g8
  · rw [gI_sI, if_pos ⟨rfl, rfl⟩]
    show nI (pre.length + (qs q).length + 1) = nI (pre.length + (qs q ++ [a]).length)
    rw [List.length_append, List.length_singleton, Nat.add_assoc]
  · intro j s' hj
    have hj : (pre ++ (qs q ++ [a]))[j]? = some s' := hj
    rw [← List.append_assoc, getElem?_snoc, List.length_append] at hj
    rw [gI_sI, if_neg (fun z => absurd z.1 (by omega)), gI_sI]
    by_cases c : j = pre.length + (qs q).length
    · rw [if_pos c] at hj
      rw [if_pos ⟨rfl, c⟩]
      cases hj
      exact ha.symm
    · rw [if_neg c] at hj
      rw [if_neg (fun z => c z.2)]
      exact g10 j s' hj
  · exact g11.eq rfl rfl (ne (by omega) (by omega) 1) (fun j => rfl)
  · exact g12
/-- an operator is put behind what is read -/
theorem RdC.addop {x : Txt} {N : List Int64} {o : Nat} {pre : List (Int32 × Int32)} {q : Qs} {h : MH} (ho : Oo o) (hR : RdC x N o pre q h) {a : Int32 × Int32} {y : Int32} {n : Nat} (hy : 20000 + y = nI n) (ha : cdo a = nI n) (hn : n < 32768) (hl : qf q = 0 → pre.length + (qs q).length < 640) {μ : Nat} (hμ : 4 < μ) : ∃ h', cal 83 [.ref (o + 15), .int y] μ h = some (none, h') ∧ RdC x N o pre (emt a q) h' ∧ Sm h h' (WF o) := by
  rcases hR with ⟨c, hG⟩ | ⟨c, hB⟩
  · rw [emt_0 c]
    have hS := hG.1
    have k1 := s_Fo_add hS ho hG.2.2.2.2.1.1 (hl c) hn (μ := 4) (by omega)
    have k2 := hG.put ho ha
    refine ⟨_, ?_, Or.inl ⟨rfl, k2.1⟩, k2.2⟩
    rw [C_83 (o + 15) _ μ h (KO_15 hS ho) (Oo_p 15 ho) hμ]
    simp only [B_83_0, e_aload_n_0, e_sipush_20000, e_iload_n_1, e_iadd, e_call_2, psh_s, psh_n, Option.bind_some, R_83, hy, k1, List.length_nil, List.length_cons, Nat.zero_le]
  · obtain ⟨h', k1, k2, k3⟩ := hB.addop ho y hμ
    refine ⟨h', k1, Or.inr ⟨by rw [emt_f]; exact c, by rw [emt_f, emt_i]; exact k2⟩, k3⟩
/-- there is room for it -/
theorem PI.room {x : Txt} (hx : TxB x) {N : List Int64} {pre : List (Int32 × Int32)} {pend c g : Nat} {q : Qs} (h : PI x N pre pend c g q) (hp : pre.length = nLf pre + nBi pre + nNt pre ∧ nBi pre ≤ nLf pre) (hg : 1 ≤ g ∨ qu q < 120) : pre.length + (qs q).length < 640 := by
  obtain ⟨p1, ⟨p2, p3, p4, p5⟩, ⟨p6, p7⟩, p8⟩ := h
  obtain ⟨c1, c2⟩ := Wh_cnt _ _ _ p1
  have hx1 := hx.1
  have hs : tkS (tks x (qi q)) ≤ x.1 := by
    obtain ⟨p, hp, e⟩ := tks_at x hx (qi q)
    have := tkn_bd hx hp
    rw [e]
    omega
  omega
