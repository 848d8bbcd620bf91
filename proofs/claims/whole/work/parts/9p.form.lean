/-! a formula, both in step -/
def WFF (o w : Nat) : WL := (o + 17, some w) :: (o + 18, some w) :: WF o
theorem WF_FF {o w : Nat} {h h' : MH} (s : Sm h h' (WF o)) : Sm h h' (WFF o w) := s.mono (fun q hq => List.mem_cons_of_mem _ (List.mem_cons_of_mem _ hq))
theorem stb_FF {o w : Nat} (ho : Oo o) : RTB.all (fun q => !wr (WFF o w) q.1 q.2.1) = true := by
  have h := stb_WF ho
  rw [List.all_eq_true] at h ⊢
  intro q hq
  have h1 := h q hq
  have h2 : ¬ q.1 = o + 17 ∧ ¬ q.1 = o + 18 := by
    have hb : RTB.all (fun q => decide (¬ q.1 = 20 ∧ ¬ q.1 = 21 ∧ ¬ q.1 = 40 ∧ ¬ q.1 = 41)) = true := by decide +kernel
    have := of_decide_eq_true (List.all_eq_true.mp hb q hq)
    rcases ho with rfl | rfl <;> omega
  simp only [Bool.not_eq_true'] at h1 ⊢
  unfold WFF wr
  rw [List.any_cons, List.any_cons]
  unfold wr at h1
  rw [h1]
  unfold wr1
  rw [show (o + 17 == q.1) = false by simpa using fun z : o + 17 = q.1 => h2.1 z.symm, show (o + 18 == q.1) = false by simpa using fun z : o + 18 = q.1 => h2.2 z.symm]
  rfl
theorem s_Fo_start {o w : Nat} {h : MH} (hS : St h) (ho : Oo o) (hw : w ≤ 12) {μ : Nat} (hμ : 3 < μ) : cal 79 [.ref (o + 15), .int (nI w)] μ h = some (none, sI h (o + 17) w (gI h (o + 15) 1)) ∧ cal 92 [.ref (o + 15), .int (nI w)] μ h = some (none, sI h (o + 18) w (gI h (o + 15) 1)) := by
  have b : inBd (nI w) 13 = true := inBd_nI (by omega) (by omega)
  have t := tc_nI (show w < 2147483648 by omega)
  have n0 := nI_nneg (show w < 2147483648 by omega)
  constructor
  · rw [C_79 (o + 15) _ μ h (KO_15 hS ho) (Oo_p 15 ho) hμ]
    simp (disch := first | assumption | exact b2i_01 _ | decide | omega | (simp only [kd_sI, ln_sI, hl_sI, gL_sI, gR_sI, kd_sL, ln_sL, hl_sL, gI_sL, gR_sL, kd_sR, ln_sR, hl_sR, gI_sR, gL_sR, kd_cpI, ln_cpI, hl_cpI, gL_cpI, gR_cpI, gI_cpI, gI_sI, gL_sL, gR_sR, St_sI, St_sL, St_cpI, Nat.reduceEqDiff, Nat.reduceAdd, eq_self, false_and, and_false, true_and, and_true, and_self, if_true, if_false, false_or, or_false, true_or, or_true, not_true_eq_false, not_false_eq_true, reduceIte, KO_0, KO_1, KO_2, NO_2, KO_3, NO_3, KO_4, KO_5, NO_5, KO_6, NO_6, KO_7, NO_7, KO_8, KO_9, NO_9, KO_10, NO_10, KO_11, NO_11, KO_12, NO_12, KO_13, NO_13, KO_14, NO_14, KO_15, KO_16, NO_16, KO_17, NO_17, KO_18, NO_18, KO_19, NO_19, FO_0_0, FO_0_1, FO_0_2, FO_0_3, FO_0_4, FO_0_5, FO_0_6, FO_0_7, FO_0_8, FO_0_9, FO_0_10, FO_0_11, FO_1_0, FO_4_0, FO_8_0, FO_15_0, FO_15_2, FO_15_3, FO_15_4, Oo_2, Oo_p, hS, ho, b, t, n0, (eq_false (by simp (disch := omega) only [nI_lit, nI_add, lt_nI, le_nI, eq_nI] <;> omega) : ((13 : Int32) ≤ nI w) = False)] <;> first | done | decide | omega | fail) | fail) only [B_79_0, e_iload_n_1, e_if_lt, e_bipush_13, e_ic_ge, e_aload_n_0, G_102, G_101, e_iastore, e_gotow, T_79_20, B_79_20, R_79, kd_sI, ln_sI, hl_sI, gL_sI, gR_sI, kd_sL, ln_sL, hl_sL, gI_sL, gR_sL, kd_sR, ln_sR, hl_sR, gI_sR, gL_sR, kd_cpI, ln_cpI, hl_cpI, gL_cpI, gR_cpI, gI_cpI, gI_sI, gL_sL, gR_sR, St_sI, St_sL, St_cpI, Nat.reduceEqDiff, Nat.reduceAdd, eq_self, false_and, and_false, true_and, and_true, and_self, if_true, if_false, false_or, or_false, true_or, or_true, not_true_eq_false, not_false_eq_true, reduceIte, KO_0, KO_1, KO_2, NO_2, KO_3, NO_3, KO_4, KO_5, NO_5, KO_6, NO_6, KO_7, NO_7, KO_8, KO_9, NO_9, KO_10, NO_10, KO_11, NO_11, KO_12, NO_12, KO_13, NO_13, KO_14, NO_14, KO_15, KO_16, NO_16, KO_17, NO_17, KO_18, NO_18, KO_19, NO_19, FO_0_0, FO_0_1, FO_0_2, FO_0_3, FO_0_4, FO_0_5, FO_0_6, FO_0_7, FO_0_8, FO_0_9, FO_0_10, FO_0_11, FO_1_0, FO_4_0, FO_8_0, FO_15_0, FO_15_2, FO_15_3, FO_15_4, Oo_2, Oo_p, ho, b, t, n0, (eq_false (by simp (disch := omega) only [nI_lit, nI_add, lt_nI, le_nI, eq_nI] <;> omega) : ((13 : Int32) ≤ nI w) = False)]
  · rw [C_92 (o + 15) _ μ h (KO_15 hS ho) (Oo_p 15 ho) hμ]
    simp (disch := first | assumption | exact b2i_01 _ | decide | omega | (simp only [kd_sI, ln_sI, hl_sI, gL_sI, gR_sI, kd_sL, ln_sL, hl_sL, gI_sL, gR_sL, kd_sR, ln_sR, hl_sR, gI_sR, gL_sR, kd_cpI, ln_cpI, hl_cpI, gL_cpI, gR_cpI, gI_cpI, gI_sI, gL_sL, gR_sR, St_sI, St_sL, St_cpI, Nat.reduceEqDiff, Nat.reduceAdd, eq_self, false_and, and_false, true_and, and_true, and_self, if_true, if_false, false_or, or_false, true_or, or_true, not_true_eq_false, not_false_eq_true, reduceIte, KO_0, KO_1, KO_2, NO_2, KO_3, NO_3, KO_4, KO_5, NO_5, KO_6, NO_6, KO_7, NO_7, KO_8, KO_9, NO_9, KO_10, NO_10, KO_11, NO_11, KO_12, NO_12, KO_13, NO_13, KO_14, NO_14, KO_15, KO_16, NO_16, KO_17, NO_17, KO_18, NO_18, KO_19, NO_19, FO_0_0, FO_0_1, FO_0_2, FO_0_3, FO_0_4, FO_0_5, FO_0_6, FO_0_7, FO_0_8, FO_0_9, FO_0_10, FO_0_11, FO_1_0, FO_4_0, FO_8_0, FO_15_0, FO_15_2, FO_15_3, FO_15_4, Oo_2, Oo_p, hS, ho, b, t, n0, (eq_false (by simp (disch := omega) only [nI_lit, nI_add, lt_nI, le_nI, eq_nI] <;> omega) : ((13 : Int32) ≤ nI w) = False)] <;> first | done | decide | omega | fail) | fail) only [B_92_0, e_iload_n_1, e_if_lt, e_bipush_13, e_ic_ge, e_aload_n_0, G_103, G_101, e_iastore, e_gotow, T_92_20, B_92_20, R_92, kd_sI, ln_sI, hl_sI, gL_sI, gR_sI, kd_sL, ln_sL, hl_sL, gI_sL, gR_sL, kd_sR, ln_sR, hl_sR, gI_sR, gL_sR, kd_cpI, ln_cpI, hl_cpI, gL_cpI, gR_cpI, gI_cpI, gI_sI, gL_sL, gR_sR, St_sI, St_sL, St_cpI, Nat.reduceEqDiff, Nat.reduceAdd, eq_self, false_and, and_false, true_and, and_true, and_self, if_true, if_false, false_or, or_false, true_or, or_true, not_true_eq_false, not_false_eq_true, reduceIte, KO_0, KO_1, KO_2, NO_2, KO_3, NO_3, KO_4, KO_5, NO_5, KO_6, NO_6, KO_7, NO_7, KO_8, KO_9, NO_9, KO_10, NO_10, KO_11, NO_11, KO_12, NO_12, KO_13, NO_13, KO_14, NO_14, KO_15, KO_16, NO_16, KO_17, NO_17, KO_18, NO_18, KO_19, NO_19, FO_0_0, FO_0_1, FO_0_2, FO_0_3, FO_0_4, FO_0_5, FO_0_6, FO_0_7, FO_0_8, FO_0_9, FO_0_10, FO_0_11, FO_1_0, FO_4_0, FO_8_0, FO_15_0, FO_15_2, FO_15_3, FO_15_4, Oo_2, Oo_p, ho, b, t, n0, (eq_false (by simp (disch := omega) only [nI_lit, nI_add, lt_nI, le_nI, eq_nI] <;> omega) : ((13 : Int32) ≤ nI w) = False)]
/-- codes and units, as told so far -/
def Cds (o : Nat) (pre : List (Int32 × Int32)) (h k : MH) : Prop := (gI h (o + 15) 1 = nI pre.length ∧ (∀ j s, pre[j]? = some s → gI h (o + 16) j = cdo s) ∧ PrO pre) ∧ (∃ u, u ≤ 120 ∧ nLf pre ≤ u ∧ gI h (o + 15) 5 = nI u ∧ gI k 66 21 = nI u)
theorem ln_form {x : Txt} {o i w : Nat} {T : List Int64} {pre : List (Int32 × Int32)} {h k : MH} (ho : Oo o) (hw : w ≤ 12) (B : BsC x o i h) (D : BsM x i k) (NT : NmC (o + 1) 4 T h) (MT : NmM 0 T k) (c40 : gI k 66 40 = nI T.length) (cd : Cds o pre h k) (tp : 4 * nNt pre ≤ tkS (tks x i)) (hi : i ≤ 1600) {μ ν : Nat} (hμ : 86 < μ) (hν : 7 < ν) : ∃ h' k', cal 78 [.ref 45, .int (nI w)] μ h = some (none, h') ∧ cal 232 [.ref 66, .int (nI w)] ν k = some (none, k') ∧ Sm h h' (WFF o w) ∧ FM w k k' ∧ ((∃ i' F, i ≤ i' ∧ BsC x o i' h' ∧ BsM x i' k' ∧ FoR o w T.length (pre ++ F) h' k' ∧ Cds o (pre ++ F) h' k' ∧ 4 * nNt (pre ++ F) ≤ tkS (tks x i') + 1) ∨ ∃ c p, BC o c p h' ∧ BM c p k') := by
  have hr := Oo_rng ho
  obtain ⟨⟨p1, p2, p3⟩, u, u1, u2, u3, u4⟩ := cd
  obtain ⟨hS, g2, g3, ⟨g4, g5, g6⟩, g7⟩ := B
  obtain ⟨hSk, q2, q3, q4, q5⟩ := D
  have hx := g2.1
  -- the class up to its levels
  let hA := sI h 45 3 0
  let hB := sI (sI h 45 3 0) (o + 17) w (nI pre.length)
  have sB : Sm h hB (WFF o w) := ((Sm.rf h _).sI (by simp [WFF, WF, wr, wr1])).sI (by simp [WFF, wr, wr1])
  have hSA : St hA := by show St (sI h 45 3 0); simpa only [kd_sI, ln_sI, hl_sI, gL_sI, gR_sI, kd_sL, ln_sL, hl_sL, gI_sL, gR_sL, kd_sR, ln_sR, hl_sR, gI_sR, gL_sR, kd_cpI, ln_cpI, hl_cpI, gL_cpI, gR_cpI, gI_cpI, gI_sI, gL_sL, gR_sR, St_sI, St_sL, St_cpI, Nat.reduceEqDiff, Nat.reduceAdd, eq_self, false_and, and_false, true_and, and_true, and_self, if_true, if_false, false_or, or_false, true_or, or_true, not_true_eq_false, not_false_eq_true, reduceIte] using hS
  have hSB : St hB := sB.St hS (stb_FF ho)
  have IB : ∀ {a j : Nat}, ¬ (a = 45 ∧ j = 3) → ¬ a = o + 17 → gI hB a j = gI h a j := fun z1 z2 => by
    show gI (sI (sI h 45 3 0) (o + 17) w (nI pre.length)) _ _ = _
    rw [gI_sI, if_neg (fun z => z2 z.1), gI_sI, if_neg z1]
  have G0 : GC x T o pre (i, 0, u, 0, []) hB := by
    refine ⟨hSB, ⟨hx, by rw [IB (by omega) (by omega)]; exact g2.2.1, fun j hj => by rw [IB (by omega) (by omega)]; exact g2.2.2 j hj⟩, ⟨by rw [IB (by omega) (by omega)]; exact g3.1, by rw [IB (by omega) (by omega)]; exact g3.2.1, by rw [IB (by omega) (by omega)]; exact g3.2.2.1, fun z => by rw [IB (by omega) (by omega)]; exact g3.2.2.2.1 z, g3.2.2.2.2⟩, ⟨by rw [IB (by omega) (by omega)]; exact g4, by rw [IB (by omega) (by omega)]; exact g5, g6, by rw [IB (by omega) (by omega)]; exact u3, ?_⟩, ⟨by rw [IB (by omega) (by omega)]; exact p1, fun j s hj => ?_⟩, NT.eq rfl rfl (IB (by omega) (by omega)) (fun j => rfl), g7⟩
    · show gI (sI (sI h 45 3 0) (o + 17) w (nI pre.length)) 45 3 = nI 0
      rw [gI_sI, if_neg (by omega), gI_sI, if_pos ⟨rfl, rfl⟩]
      rfl
    · rw [IB (by omega) (by omega)]
      exact p2 j s (by rw [List.append_nil] at hj; exact hj)
  have P0 : PI x T pre 0 0 0 (i, 0, u, 0, []) := ⟨rfl, ⟨u2, u1, Nat.zero_le _, Nat.zero_le _⟩, ⟨by show 4 * (nNt pre + 0 + 0) ≤ tkS (tks x i) + 1; omega, fun _ => by show 4 * (nNt pre + 0 + 0) ≤ tkS (tks x i); omega⟩, Nat.zero_le _⟩
  have hms : ms 1 (i, 0, u, 0, ([] : List (Int32 × Int32))) = 16 * (1602 - i) + 9 := rfl
  obtain ⟨h2, s2, R2, m2⟩ := (pcl_all (N := T) ho p3 26000).2.2.2.2.2 0 (i, 0, u, 0, []) 0 0 0 hB 86 (by omega) (by omega) rfl (by omega) hi P0 G0 (by omega)
  have s2 : cal 80 [.ref 45, .int 0] 86 hB = some (none, h2) := s2
  have hS2 : St h2 := m2.St hSB (stb_WF ho)
  have o2 : gR h2 45 1 = .ref o := by rw [m2.R (by rcases ho with rfl | rfl <;> rfl)]; exact g6
  obtain ⟨st1, -⟩ := s_Fo_start (o := o) (w := w) hSA ho hw (μ := 86) (by omega)
  obtain ⟨-, cl1⟩ := s_Fo_start (o := o) (w := w) hS2 ho hw (μ := 86) (by omega)
  have eA : gI hA (o + 15) 1 = nI pre.length := by
    show gI (sI h 45 3 0) (o + 15) 1 = _
    rw [gI_sI, if_neg (by omega)]
    exact p1
  rw [eA] at st1
  have runC : cal 78 [.ref 45, .int (nI w)] μ h = some (none, sI h2 (o + 18) w (gI h2 (o + 15) 1)) := by
    have st1 : cal 79 [.ref (o + 15), .int (nI w)] 86 (sI h 45 3 0) = some (none, hB) := st1
    rw [C_78 45 _ μ _ (K_45 hS) (by decide) hμ]
    have hSB' := hSB
    have g6B : gR hB 45 1 = .ref o := g6
    simp (disch := first | assumption | exact b2i_01 _ | decide | omega | (simp only [kd_sI, ln_sI, hl_sI, gL_sI, gR_sI, kd_sL, ln_sL, hl_sL, gI_sL, gR_sL, kd_sR, ln_sR, hl_sR, gI_sR, gL_sR, kd_cpI, ln_cpI, hl_cpI, gL_cpI, gR_cpI, gI_cpI, gI_sI, gL_sL, gR_sR, St_sI, St_sL, St_cpI, Nat.reduceEqDiff, Nat.reduceAdd, eq_self, false_and, and_false, true_and, and_true, and_self, if_true, if_false, false_or, or_false, true_or, or_true, not_true_eq_false, not_false_eq_true, reduceIte, K_45, F_45_0, KO_0, KO_1, KO_2, NO_2, KO_3, NO_3, KO_4, KO_5, NO_5, KO_6, NO_6, KO_7, NO_7, KO_8, KO_9, NO_9, KO_10, NO_10, KO_11, NO_11, KO_12, NO_12, KO_13, NO_13, KO_14, NO_14, KO_15, KO_16, NO_16, KO_17, NO_17, KO_18, NO_18, KO_19, NO_19, FO_0_0, FO_0_1, FO_0_2, FO_0_3, FO_0_4, FO_0_5, FO_0_6, FO_0_7, FO_0_8, FO_0_9, FO_0_10, FO_0_11, FO_1_0, FO_4_0, FO_8_0, FO_15_0, FO_15_2, FO_15_3, FO_15_4, Oo_2, Oo_p, hS, g4, g6, ho, st1, hSB', g6B, s2, hS2, o2, cl1, List.length_nil, List.length_cons, Nat.zero_le] <;> first | done | decide | omega | fail) | fail) only [B_78_0, e_aload_n_0, G_604, e_if_eq, R_78, T_78_8, B_78_8, e_iconst_0, P_603, G_601, G_511, e_iload_n_1, e_call_2, psh_s, psh_n, Option.bind_some, kd_sI, ln_sI, hl_sI, gL_sI, gR_sI, kd_sL, ln_sL, hl_sL, gI_sL, gR_sL, kd_sR, ln_sR, hl_sR, gI_sR, gL_sR, kd_cpI, ln_cpI, hl_cpI, gL_cpI, gR_cpI, gI_cpI, gI_sI, gL_sL, gR_sR, St_sI, St_sL, St_cpI, Nat.reduceEqDiff, Nat.reduceAdd, eq_self, false_and, and_false, true_and, and_true, and_self, if_true, if_false, false_or, or_false, true_or, or_true, not_true_eq_false, not_false_eq_true, reduceIte, K_45, F_45_0, KO_0, KO_1, KO_2, NO_2, KO_3, NO_3, KO_4, KO_5, NO_5, KO_6, NO_6, KO_7, NO_7, KO_8, KO_9, NO_9, KO_10, NO_10, KO_11, NO_11, KO_12, NO_12, KO_13, NO_13, KO_14, NO_14, KO_15, KO_16, NO_16, KO_17, NO_17, KO_18, NO_18, KO_19, NO_19, FO_0_0, FO_0_1, FO_0_2, FO_0_3, FO_0_4, FO_0_5, FO_0_6, FO_0_7, FO_0_8, FO_0_9, FO_0_10, FO_0_11, FO_1_0, FO_4_0, FO_8_0, FO_15_0, FO_15_2, FO_15_3, FO_15_4, Oo_2, Oo_p, g4, g6, ho, st1, hSB', g6B, s2, hS2, o2, cl1, List.length_nil, List.length_cons, Nat.zero_le]
  have smC : Sm h (sI h2 (o + 18) w (gI h2 (o + 15) 1)) (WFF o w) := (sB.trans (WF_FF m2)).sI (by simp [WFF, wr, wr1])
  -- the reference up to its units
  let k1 := sI (sI (sI (sI (sI k 66 19 (nI w)) 71 w 0) 66 20 0) 66 24 0) 66 23 0
  have M0 : MF x T w i u 0 0 [] [] k1 := by
    refine ⟨⟨by show St (sI (sI (sI (sI (sI k 66 19 (nI w)) 71 w 0) 66 20 0) 66 24 0) 66 23 0); simpa only [kd_sI, ln_sI, hl_sI, gL_sI, gR_sI, kd_sL, ln_sL, hl_sL, gI_sL, gR_sL, kd_sR, ln_sR, hl_sR, gI_sR, gL_sR, kd_cpI, ln_cpI, hl_cpI, gL_cpI, gR_cpI, gI_cpI, gI_sI, gL_sL, gR_sR, St_sI, St_sL, St_cpI, Nat.reduceEqDiff, Nat.reduceAdd, eq_self, false_and, and_false, true_and, and_true, and_self, if_true, if_false, false_or, or_false, true_or, or_true, not_true_eq_false, not_false_eq_true, reduceIte] using hSk, ⟨hx, by simp only [k1, kd_sI, ln_sI, hl_sI, gL_sI, gR_sI, kd_sL, ln_sL, hl_sL, gI_sL, gR_sL, kd_sR, ln_sR, hl_sR, gI_sR, gL_sR, kd_cpI, ln_cpI, hl_cpI, gL_cpI, gR_cpI, gI_cpI, gI_sI, gL_sL, gR_sR, St_sI, St_sL, St_cpI, Nat.reduceEqDiff, Nat.reduceAdd, eq_self, false_and, and_false, true_and, and_true, and_self, if_true, if_false, false_or, or_false, true_or, or_true, not_true_eq_false, not_false_eq_true, reduceIte]; exact q2.2.1, fun j hj => by simp only [k1, kd_sI, ln_sI, hl_sI, gL_sI, gR_sI, kd_sL, ln_sL, hl_sL, gI_sL, gR_sL, kd_sR, ln_sR, hl_sR, gI_sR, gL_sR, kd_cpI, ln_cpI, hl_cpI, gL_cpI, gR_cpI, gI_cpI, gI_sI, gL_sL, gR_sR, St_sI, St_sL, St_cpI, Nat.reduceEqDiff, Nat.reduceAdd, eq_self, false_and, and_false, true_and, and_true, and_self, if_true, if_false, false_or, or_false, true_or, or_true, not_true_eq_false, not_false_eq_true, reduceIte]; exact q2.2.2 j hj⟩, ?_⟩, ⟨by simp only [k1, kd_sI, ln_sI, hl_sI, gL_sI, gR_sI, kd_sL, ln_sL, hl_sL, gI_sL, gR_sL, kd_sR, ln_sR, hl_sR, gI_sR, gL_sR, kd_cpI, ln_cpI, hl_cpI, gL_cpI, gR_cpI, gI_cpI, gI_sI, gL_sL, gR_sR, St_sI, St_sL, St_cpI, Nat.reduceEqDiff, Nat.reduceAdd, eq_self, false_and, and_false, true_and, and_true, and_self, if_true, if_false, false_or, or_false, true_or, or_true, not_true_eq_false, not_false_eq_true, reduceIte]; exact q4, by simp only [k1, kd_sI, ln_sI, hl_sI, gL_sI, gR_sI, kd_sL, ln_sL, hl_sL, gI_sL, gR_sL, kd_sR, ln_sR, hl_sR, gI_sR, gL_sR, kd_cpI, ln_cpI, hl_cpI, gL_cpI, gR_cpI, gI_cpI, gI_sI, gL_sL, gR_sR, St_sI, St_sL, St_cpI, Nat.reduceEqDiff, Nat.reduceAdd, eq_self, false_and, and_false, true_and, and_true, and_self, if_true, if_false, false_or, or_false, true_or, or_true, not_true_eq_false, not_false_eq_true, reduceIte]; exact q5, by simp only [k1, kd_sI, ln_sI, hl_sI, gL_sI, gR_sI, kd_sL, ln_sL, hl_sL, gI_sL, gR_sL, kd_sR, ln_sR, hl_sR, gI_sR, gL_sR, kd_cpI, ln_cpI, hl_cpI, gL_cpI, gR_cpI, gI_cpI, gI_sI, gL_sL, gR_sR, St_sI, St_sL, St_cpI, Nat.reduceEqDiff, Nat.reduceAdd, eq_self, false_and, and_false, true_and, and_true, and_self, if_true, if_false, false_or, or_false, true_or, or_true, not_true_eq_false, not_false_eq_true, reduceIte], hw⟩, ⟨by simp only [k1, kd_sI, ln_sI, hl_sI, gL_sI, gR_sI, kd_sL, ln_sL, hl_sL, gI_sL, gR_sL, kd_sR, ln_sR, hl_sR, gI_sR, gL_sR, kd_cpI, ln_cpI, hl_cpI, gL_cpI, gR_cpI, gI_cpI, gI_sI, gL_sL, gR_sR, St_sI, St_sL, St_cpI, Nat.reduceEqDiff, Nat.reduceAdd, eq_self, false_and, and_false, true_and, and_true, and_self, if_true, if_false, false_or, or_false, true_or, or_true, not_true_eq_false, not_false_eq_true, reduceIte]; rfl, by simp, fun j v hj => by simp at hj⟩, ⟨by simp only [k1, kd_sI, ln_sI, hl_sI, gL_sI, gR_sI, kd_sL, ln_sL, hl_sL, gI_sL, gR_sL, kd_sR, ln_sR, hl_sR, gI_sR, gL_sR, kd_cpI, ln_cpI, hl_cpI, gL_cpI, gR_cpI, gI_cpI, gI_sI, gL_sL, gR_sR, St_sI, St_sL, St_cpI, Nat.reduceEqDiff, Nat.reduceAdd, eq_self, false_and, and_false, true_and, and_true, and_self, if_true, if_false, false_or, or_false, true_or, or_true, not_true_eq_false, not_false_eq_true, reduceIte]; exact u4, by simp only [k1, kd_sI, ln_sI, hl_sI, gL_sI, gR_sI, kd_sL, ln_sL, hl_sL, gI_sL, gR_sL, kd_sR, ln_sR, hl_sR, gI_sR, gL_sR, kd_cpI, ln_cpI, hl_cpI, gL_cpI, gR_cpI, gI_cpI, gI_sI, gL_sL, gR_sR, St_sI, St_sL, St_cpI, Nat.reduceEqDiff, Nat.reduceAdd, eq_self, false_and, and_false, true_and, and_true, and_self, if_true, if_false, false_or, or_false, true_or, or_true, not_true_eq_false, not_false_eq_true, reduceIte]; rfl, by simp only [k1, kd_sI, ln_sI, hl_sI, gL_sI, gR_sI, kd_sL, ln_sL, hl_sL, gI_sL, gR_sL, kd_sR, ln_sR, hl_sR, gI_sR, gL_sR, kd_cpI, ln_cpI, hl_cpI, gL_cpI, gR_cpI, gI_cpI, gI_sI, gL_sL, gR_sR, St_sI, St_sL, St_cpI, Nat.reduceEqDiff, Nat.reduceAdd, eq_self, false_and, and_false, true_and, and_true, and_self, if_true, if_false, false_or, or_false, true_or, or_true, not_true_eq_false, not_false_eq_true, reduceIte]; rfl⟩, ⟨by simp only [k1, kd_sI, ln_sI, hl_sI, gL_sI, gR_sI, kd_sL, ln_sL, hl_sL, gI_sL, gR_sL, kd_sR, ln_sR, hl_sR, gI_sR, gL_sR, kd_cpI, ln_cpI, hl_cpI, gL_cpI, gR_cpI, gI_cpI, gI_sI, gL_sL, gR_sR, St_sI, St_sL, St_cpI, Nat.reduceEqDiff, Nat.reduceAdd, eq_self, false_and, and_false, true_and, and_true, and_self, if_true, if_false, false_or, or_false, true_or, or_true, not_true_eq_false, not_false_eq_true, reduceIte]; rfl, by simp, fun j s hj => by simp at hj⟩, by simp only [k1, kd_sI, ln_sI, hl_sI, gL_sI, gR_sI, kd_sL, ln_sL, hl_sL, gI_sL, gR_sL, kd_sR, ln_sR, hl_sR, gI_sR, gL_sR, kd_cpI, ln_cpI, hl_cpI, gL_cpI, gR_cpI, gI_cpI, gI_sI, gL_sL, gR_sR, St_sI, St_sL, St_cpI, Nat.reduceEqDiff, Nat.reduceAdd, eq_self, false_and, and_false, true_and, and_true, and_self, if_true, if_false, false_or, or_false, true_or, or_true, not_true_eq_false, not_false_eq_true, reduceIte]; exact c40, MT⟩
    unfold TokM
    simp only [k1, kd_sI, ln_sI, hl_sI, gL_sI, gR_sI, kd_sL, ln_sL, hl_sL, gI_sL, gR_sL, kd_sR, ln_sR, hl_sR, gI_sR, gL_sR, kd_cpI, ln_cpI, hl_cpI, gL_cpI, gR_cpI, gI_cpI, gI_sI, gL_sL, gR_sR, St_sI, St_sL, St_cpI, Nat.reduceEqDiff, Nat.reduceAdd, eq_self, false_and, and_false, true_and, and_true, and_self, if_true, if_false, false_or, or_false, true_or, or_true, not_true_eq_false, not_false_eq_true, reduceIte]
    exact q3
  have F0 : FM w k k1 := by
    have q1 : FM w k (sI k 66 19 (nI w)) := (FM.rf w k).sI (by unfold wrM; omega)
    have q2 : FM w k (sI (sI k 66 19 (nI w)) 71 w 0) := FMs71 (n := 0) q1 (by omega) rfl
    exact ((q2.sI (by unfold wrM; omega)).sI (by unfold wrM; omega)).sI (by unfold wrM; omega)
  have GU := (sy_all (N := T) (pre := pre) (w := w) hx 26000).1.2.2.2.2.2 0 (i, 0, u, 0, []) 0 0 0 [] k1 none (by omega) (by omega) rfl (by omega) P0 (by simp) trivial (fun a ha => by cases ha) (fun z => by omega) M0
  have runM : cal 232 [.ref 66, .int (nI w)] ν k = UF w none k1 := by
    have bw : inBd (nI w) 13 = true := inBd_nI (by omega) (by omega)
    have tw := tc_nI (show w < 2147483648 by omega)
    have hS := hSk
    have cu := cal_unit M0.1.1
    simp only [k1] at cu
    rw [C_232 66 _ ν k (K_66 hSk) (by decide) hν]
    unfold UF KF
    simp (disch := first | assumption | exact b2i_01 _ | decide | omega | (simp only [kd_sI, ln_sI, hl_sI, gL_sI, gR_sI, kd_sL, ln_sL, hl_sL, gI_sL, gR_sL, kd_sR, ln_sR, hl_sR, gI_sR, gL_sR, kd_cpI, ln_cpI, hl_cpI, gL_cpI, gR_cpI, gI_cpI, gI_sI, gL_sL, gR_sR, St_sI, St_sL, St_cpI, Nat.reduceEqDiff, Nat.reduceAdd, eq_self, false_and, and_false, true_and, and_true, and_self, if_true, if_false, false_or, or_false, true_or, or_true, not_true_eq_false, not_false_eq_true, reduceIte, K_66, F_66_0, F_66_10, F_66_11, F_66_12, F_66_13, F_66_14, F_66_15, F_66_16, F_66_17, F_66_18, F_66_25, F_66_26, F_66_27, F_66_28, F_66_29, F_66_30, F_66_31, F_66_32, F_66_33, F_66_34, F_66_35, F_66_36, F_66_37, F_66_38, F_66_39, F_66_60, F_66_61, F_66_62, F_66_63, F_66_66, F_66_68, F_66_69, F_66_71, F_66_72, F_66_73, F_66_74, F_66_77, F_66_78, F_66_79, F_66_80, F_66_81, F_66_84, F_66_85, F_66_86, F_66_87, K_71, N_71, hS, bw, tw, cu, List.length_nil, List.length_cons, Nat.zero_le] <;> first | done | decide | omega | fail) | fail) only [B_232_0, e_aload_n_0, e_iload_n_1, P_1219, G_1213, G_1219, e_iconst_0, e_iastore, P_1220, P_1224, P_1223, e_call_1, psh_s, psh_n, Option.bind_some, e_iconst_1, e_istore_n_2, clr_i, clr_l, clr_a, clr_n, e_gotow, T_232_36, e_iload_n_2, e_if_eq, G_1202, e_if_ne, e_istore_n_3, G_1206, e_bipush_41, e_ic_ne, e_call_2, e_dup_i, e_dup_a, G_1220, e_isub, G_1224, e_goto, T_232_100, B_232_100, e_iload_n_3, e_iconst_4, T_232_119, B_232_119, G_1217, e_iadd, T_232_158, B_232_158, T_232_160, B_232_160, T_232_163, B_232_163, e_iconst_2, T_232_182, B_232_182, T_232_194, B_232_194, R_232, kd_sI, ln_sI, hl_sI, gL_sI, gR_sI, kd_sL, ln_sL, hl_sL, gI_sL, gR_sL, kd_sR, ln_sR, hl_sR, gI_sR, gL_sR, kd_cpI, ln_cpI, hl_cpI, gL_cpI, gR_cpI, gI_cpI, gI_sI, gL_sL, gR_sR, St_sI, St_sL, St_cpI, Nat.reduceEqDiff, Nat.reduceAdd, eq_self, false_and, and_false, true_and, and_true, and_self, if_true, if_false, false_or, or_false, true_or, or_true, not_true_eq_false, not_false_eq_true, reduceIte, K_66, F_66_0, F_66_10, F_66_11, F_66_12, F_66_13, F_66_14, F_66_15, F_66_16, F_66_17, F_66_18, F_66_25, F_66_26, F_66_27, F_66_28, F_66_29, F_66_30, F_66_31, F_66_32, F_66_33, F_66_34, F_66_35, F_66_36, F_66_37, F_66_38, F_66_39, F_66_60, F_66_61, F_66_62, F_66_63, F_66_66, F_66_68, F_66_69, F_66_71, F_66_72, F_66_73, F_66_74, F_66_77, F_66_78, F_66_79, F_66_80, F_66_81, F_66_84, F_66_85, F_66_86, F_66_87, K_71, N_71, bw, tw, cu, List.length_nil, List.length_cons, Nat.zero_le]
    rfl
  have hPI := PI_rd (N := T) (pre := pre) hx 26000 1 0 (i, 0, u, 0, []) 0 0 0 (Or.inl rfl) rfl (by omega) (by omega) (by intro z; omega) P0
  rw [if_neg (show ¬ 10 ≤ 1 by decide)] at hPI
  have hmn := rd_mono (x := x) (N := T) 26000 1 0 (i, 0, u, 0, [])
  have hmn : i ≤ qi (rd x T 26000 1 0 (i, 0, u, 0, [])) := hmn
  generalize rd x T 26000 1 0 (i, 0, u, 0, []) = r at R2 GU hPI hmn
  rw [runC, runM]
  rcases R2 with ⟨z, G2⟩ | ⟨z, B2⟩
  · obtain ⟨k2, R', E', l3', a1, a2, a3, a4, a5, a6⟩ := GU.1 z
    have hPz := hPI z
    have hlen := hPz.len (by omega)
    have hEl : E'.length + R'.length = (qs r).length := by rw [← a2, List.length_append, List.length_map]
    rw [List.append_nil] at a5
    obtain ⟨k3, b1, b2, b3⟩ := kf_endG (d := 0) l3' a5 (fun a ha => (a3 a ha).1) (by
      rcases a4 with y | y
      · left; omega
      · exact Or.inr y) (by omega)
    rw [a2] at b2
    rw [a1, b1]
    obtain ⟨w1, ⟨w2, w3, w4, w5⟩, ⟨w6, w7⟩, w8⟩ := hPz
    obtain ⟨cn1, cn2⟩ := Wh_cnt _ _ _ w1
    obtain ⟨j1, j2, j3, ⟨j4, j5, j6, j7, j8⟩, ⟨j9, j10⟩, j11, j12⟩ := G2
    rw [j9] at smC
    have IH : ∀ {a j : Nat}, ¬ a = o + 18 → gI (sI h2 (o + 18) w (nI (pre.length + (qs r).length))) a j = gI h2 a j := fun z2 => by
      rw [gI_sI, if_neg (fun y => z2 y.1)]
    have st17 : gI h2 (o + 17) w = nI pre.length := by
      rw [m2.I (by rcases ho with rfl | rfl <;> rfl)]
      show gI (sI (sI h 45 3 0) (o + 17) w (nI pre.length)) (o + 17) w = _
      rw [gI_sI, if_pos ⟨rfl, rfl⟩]
    refine ⟨sI h2 (o + 18) w (nI (pre.length + (qs r).length)), k3, by rw [j9], rfl, smC, (F0.trans a6).trans b3, Or.inl ⟨qi r, qs r, hmn, ⟨smC.St hS (stb_FF ho), ⟨hx, by rw [IH (by omega)]; exact j2.2.1, fun j hj => by rw [IH (by omega)]; exact j2.2.2 j hj⟩, ⟨by rw [IH (by omega)]; exact j3.1, by rw [IH (by omega)]; exact j3.2.1, by rw [IH (by omega)]; exact j3.2.2.1, fun y => by rw [IH (by omega)]; exact j3.2.2.2.1 y, j3.2.2.2.2⟩, ⟨by rw [IH (by omega)]; exact j4, by rw [IH (by omega)]; exact j5, j6⟩, j12⟩, ⟨b2.1.1, b2.1.2.1, b2.1.2.2, b2.2.1.1, b2.2.1.2.1⟩, ⟨pre.length, qs r, by rw [IH (by omega)]; exact st17, by rw [gI_sI, if_pos ⟨rfl, rfl⟩], by rw [List.length_append]; omega, fun j st hj => ?_, w1, by omega, b2.2.2.2.2.1.1, b2.2.2.2.2.1.2.2⟩, ⟨⟨by rw [IH (by omega), List.length_append]; exact j9, fun j s hj => by rw [IH (by omega)]; exact j10 j s hj, ?_⟩, qu r, w3, ?_, by rw [IH (by omega)]; exact j7, b2.2.2.2.1.1⟩, ?_⟩⟩
    · rw [List.getElem?_append_right (by omega), Nat.add_sub_cancel_left]
      exact hj
    · unfold PrO at p3 ⊢
      rw [List.length_append, nLf_app, nBi_app, nNt_app]
      omega
    · rw [nLf_app]; exact w2
    · rw [nNt_app]; omega
  · obtain ⟨k2, a1, a2, a3⟩ := GU.2 z
    rw [a1]
    refine ⟨sI h2 (o + 18) w (gI h2 (o + 15) 1), k2, rfl, rfl, smC, F0.trans a3, Or.inr ⟨_, _, B2.sm (smC.St hS (stb_FF ho)) (fun a j ha => ⟨?_, rfl⟩), a2⟩⟩
    rw [gI_sI, if_neg (by omega)]
