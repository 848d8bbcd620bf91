def kpS (n : Nat) (k : MH) : MH := sI (sI (sI (sI (sI (sI (sI (sI (sI (sI (sI (sI (sI (sI (sI (sI k 66 5 (nI n)) 66 1 0) 66 4 0) 66 2 0) 66 3 (-1)) 66 40 0) 66 41 0) 66 42 0) 66 43 0) 66 44 0) 66 45 0) 66 46 1) 66 47 0) 66 48 0) 66 49 0) 66 21 0
theorem hl_flS (h : MH) (b n : Nat) (v : Int32) : (flS h b n v).1 = h.1 := rfl
theorem gL_hpS (o : Nat) (h : MH) (a j : Nat) : gL (hpS o h) a j = gL h a j := by
  unfold hpS clD clC clB clA
  simp only [gL_sI, gL_flS, gL_sR]
theorem gR_hpS (o : Nat) (h : MH) (a j : Nat) : gR (hpS o h) a j = if a = 45 ∧ j = 1 then .ref o else gR h a j := by
  unfold hpS clD clC clB clA
  simp only [gR_sI, gR_flS, gR_sR]
theorem hl_hpS (o : Nat) (h : MH) : (hpS o h).1 = h.1 := by
  unfold hpS clD clC clB clA
  simp only [hl_sI, hl_flS, hl_sR]
theorem gI_hpS (o : Nat) (h : MH) (a j : Nat) : gI (hpS o h) a j = if a = 45 ∧ j = 5 then -1 else if a = 45 ∧ j = 4 then 0 else if a = 45 ∧ j = 2 then 0 else if a = o ∧ j = 17 then 0 else if a = o ∧ j = 16 then 0 else if a = o ∧ j = 15 then 1 else if a = o ∧ j = 14 then 0 else if a = o ∧ j = 13 then 0 else if a = o ∧ j = 12 then 0 else if a = o + 18 ∧ j < 13 then 0 else if a = o + 15 ∧ j = 5 then 0 else if a = o + 15 ∧ j = 1 then 0 else if a = o + 14 ∧ j < 12 then 0 else if a = o + 13 ∧ j < 12 then 0 else if a = o + 12 ∧ j < 12 then 0 else if a = o + 7 ∧ j < 3 then 0 else if a = o + 8 ∧ j = 1 then 0 else if a = o + 4 ∧ j = 1 then 0 else if a = o + 1 ∧ j = 1 then 0 else gI h a j := by
  unfold hpS clD clC clB clA
  simp only [gI_sI, gI_flS, gI_sR]
theorem gL_kpS (n : Nat) (k : MH) (a j : Nat) : gL (kpS n k) a j = gL k a j := by
  unfold kpS
  simp only [gL_sI]
theorem gR_kpS (n : Nat) (k : MH) (a j : Nat) : gR (kpS n k) a j = gR k a j := by
  unfold kpS
  simp only [gR_sI]
theorem hl_kpS (n : Nat) (k : MH) : (kpS n k).1 = k.1 := by
  unfold kpS
  simp only [hl_sI]
theorem gI_kpS (n : Nat) (k : MH) (a j : Nat) (h : ¬ a = 66 ∨ 50 ≤ j ∨ j = 22) : gI (kpS n k) a j = gI k a j := by
  unfold kpS
  simp only [gI_sI]
  repeat rw [if_neg (by omega)]
theorem s_readAll0 {x : Txt} {k : MH} (hS : St k) (hx : TxB x) (h1 : gI k 66 1 = nI x.1) (h67 : ∀ i, i < x.1 → gI k 67 i = nI (x.2 i)) : ∃ k', cal 210 [.ref 66] 11 k = rn 210 10 B_210_87 [some (.ref 66)] [] k' ∧ TokM (tks x 0) k' ∧ St k' ∧ Sm (kpS x.1 k) k' W66 ∧ TpM x k' := by
  have SS : St (kpS x.1 k) := by unfold kpS; simpa only [kd_sI, ln_sI, hl_sI, gL_sI, gR_sI, kd_sL, ln_sL, hl_sL, gI_sL, gR_sL, kd_sR, ln_sR, hl_sR, gI_sR, gL_sR, kd_cpI, ln_cpI, hl_cpI, gL_cpI, gR_cpI, gI_cpI, gI_sI, gL_sL, gR_sR, St_sI, St_sL, St_cpI, Nat.reduceEqDiff, Nat.reduceAdd, eq_self, false_and, and_false, true_and, and_true, and_self, if_true, if_false, false_or, or_false, true_or, or_true, not_true_eq_false, not_false_eq_true, reduceIte] using hS
  have T0 : TpM x (kpS x.1 k) := ⟨hx, by unfold kpS; simp only [kd_sI, ln_sI, hl_sI, gL_sI, gR_sI, kd_sL, ln_sL, hl_sL, gI_sL, gR_sL, kd_sR, ln_sR, hl_sR, gI_sR, gL_sR, kd_cpI, ln_cpI, hl_cpI, gL_cpI, gR_cpI, gI_cpI, gI_sI, gL_sL, gR_sR, St_sI, St_sL, St_cpI, Nat.reduceEqDiff, Nat.reduceAdd, eq_self, false_and, and_false, true_and, and_true, and_self, if_true, if_false, false_or, or_false, true_or, or_true, not_true_eq_false, not_false_eq_true, reduceIte], fun i hi => by unfold kpS; simp only [kd_sI, ln_sI, hl_sI, gL_sI, gR_sI, kd_sL, ln_sL, hl_sL, gI_sL, gR_sL, kd_sR, ln_sR, hl_sR, gI_sR, gL_sR, kd_cpI, ln_cpI, hl_cpI, gL_cpI, gR_cpI, gI_cpI, gI_sI, gL_sL, gR_sR, St_sI, St_sL, St_cpI, Nat.reduceEqDiff, Nat.reduceAdd, eq_self, false_and, and_false, true_and, and_true, and_self, if_true, if_false, false_or, or_false, true_or, or_true, not_true_eq_false, not_false_eq_true, reduceIte]; exact h67 i hi⟩
  obtain ⟨k', k1, k2, k3⟩ := s_Mo_token (p := 0) SS T0 (Nat.zero_le _) (by unfold kpS; simp only [kd_sI, ln_sI, hl_sI, gL_sI, gR_sI, kd_sL, ln_sL, hl_sL, gI_sL, gR_sL, kd_sR, ln_sR, hl_sR, gI_sR, gL_sR, kd_cpI, ln_cpI, hl_cpI, gL_cpI, gR_cpI, gI_cpI, gI_sI, gL_sL, gR_sR, St_sI, St_sL, St_cpI, Nat.reduceEqDiff, Nat.reduceAdd, eq_self, false_and, and_false, true_and, and_true, and_self, if_true, if_false, false_or, or_false, true_or, or_true, not_true_eq_false, not_false_eq_true, reduceIte]; rfl) (μ := 10) (by omega)
  refine ⟨k', ?_, k2, k3.St SS stb_66, k3, T0.sm k3⟩
  rw [C_210 66 11 k (K_66 hS) (by decide) (by omega)]
  unfold kpS at k1
  simp (disch := first | assumption | exact b2i_01 _ | decide | omega | (simp only [kd_sI, ln_sI, hl_sI, gL_sI, gR_sI, kd_sL, ln_sL, hl_sL, gI_sL, gR_sL, kd_sR, ln_sR, hl_sR, gI_sR, gL_sR, kd_cpI, ln_cpI, hl_cpI, gL_cpI, gR_cpI, gI_cpI, gI_sI, gL_sL, gR_sR, St_sI, St_sL, St_cpI, Nat.reduceEqDiff, Nat.reduceAdd, eq_self, false_and, and_false, true_and, and_true, and_self, if_true, if_false, false_or, or_false, true_or, or_true, not_true_eq_false, not_false_eq_true, reduceIte, K_66, F_66_0, F_66_10, F_66_11, F_66_12, F_66_13, F_66_14, F_66_15, F_66_16, F_66_17, F_66_18, F_66_25, F_66_26, F_66_27, F_66_28, F_66_29, F_66_30, F_66_31, F_66_32, F_66_33, F_66_34, F_66_35, F_66_36, F_66_37, F_66_38, F_66_39, F_66_60, F_66_61, F_66_62, F_66_63, F_66_66, F_66_68, F_66_69, F_66_71, F_66_72, F_66_73, F_66_74, F_66_77, F_66_78, F_66_79, F_66_80, F_66_81, F_66_84, F_66_85, F_66_86, F_66_87, hS, h1, k1, List.length_nil, List.length_cons, Nat.zero_le] <;> first | done | decide | omega | fail) | fail) only [B_210_0, e_aload_n_0, G_1201, P_1205, e_iconst_0, P_1201, P_1204, P_1202, e_iconst_m1, P_1203, P_1240, P_1241, P_1242, P_1243, P_1244, P_1245, e_iconst_1, P_1246, P_1247, P_1248, P_1249, P_1221, e_call_1, psh_s, psh_n, Option.bind_some, e_gotow, T_210_87, G_1202, e_if_ne, G_1206, e_if_eq, e_goto, T_210_108, B_210_108, R_210, kd_sI, ln_sI, hl_sI, gL_sI, gR_sI, kd_sL, ln_sL, hl_sL, gI_sL, gR_sL, kd_sR, ln_sR, hl_sR, gI_sR, gL_sR, kd_cpI, ln_cpI, hl_cpI, gL_cpI, gR_cpI, gI_cpI, gI_sI, gL_sL, gR_sR, St_sI, St_sL, St_cpI, Nat.reduceEqDiff, Nat.reduceAdd, eq_self, false_and, and_false, true_and, and_true, and_self, if_true, if_false, false_or, or_false, true_or, or_true, not_true_eq_false, not_false_eq_true, reduceIte, K_66, F_66_0, F_66_10, F_66_11, F_66_12, F_66_13, F_66_14, F_66_15, F_66_16, F_66_17, F_66_18, F_66_25, F_66_26, F_66_27, F_66_28, F_66_29, F_66_30, F_66_31, F_66_32, F_66_33, F_66_34, F_66_35, F_66_36, F_66_37, F_66_38, F_66_39, F_66_60, F_66_61, F_66_62, F_66_63, F_66_66, F_66_68, F_66_69, F_66_71, F_66_72, F_66_73, F_66_74, F_66_77, F_66_78, F_66_79, F_66_80, F_66_81, F_66_84, F_66_85, F_66_86, F_66_87, h1, k1, List.length_nil, List.length_cons, Nat.zero_le]
theorem hpS_I {o : Nat} (ho : Oo o) {h : MH} : (∀ {a j : Nat}, ¬ (o ≤ a ∧ a ≤ o + 19) → ¬ a = 45 → gI (hpS o h) a j = gI h a j) ∧ (∀ {a j : Nat}, gL (hpS o h) a j = gL h a j) ∧ (∀ {a j : Nat}, ¬ (a = 45 ∧ j = 1) → gR (hpS o h) a j = gR h a j) ∧ gR (hpS o h) 45 1 = .ref o ∧ (hpS o h).1 = h.1 ∧ gI (hpS o h) 45 2 = 0 ∧ gI (hpS o h) 45 4 = 0 ∧ gI (hpS o h) 45 5 = -1 ∧ gI (hpS o h) (o + 1) 1 = 0 ∧ gI (hpS o h) (o + 4) 1 = 0 ∧ gI (hpS o h) (o + 8) 1 = 0 ∧ (∀ j, j < 3 → gI (hpS o h) (o + 7) j = 0) ∧ (∀ j, j < 12 → gI (hpS o h) (o + 12) j = 0 ∧ gI (hpS o h) (o + 13) j = 0 ∧ gI (hpS o h) (o + 14) j = 0) ∧ gI (hpS o h) (o + 15) 1 = 0 ∧ gI (hpS o h) (o + 15) 5 = 0 ∧ gI (hpS o h) (o + 18) 12 = 0 ∧ (gI (hpS o h) o 12 = 0 ∧ gI (hpS o h) o 13 = 0 ∧ gI (hpS o h) o 14 = 0 ∧ gI (hpS o h) o 15 = 1 ∧ gI (hpS o h) o 16 = 0 ∧ gI (hpS o h) o 17 = 0) := by
  have hr := Oo_rng ho
  have e := gI_hpS o h
  refine ⟨fun {a j} q1 q2 => ?_, fun {a j} => gL_hpS o h a j, fun {a j} q => ?_, ?_, hl_hpS o h, ?_, ?_, ?_, ?_, ?_, ?_, fun j hj => ?_, fun j hj => ⟨?_, ?_, ?_⟩, ?_, ?_, ?_, ?_, ?_, ?_, ?_, ?_, ?_⟩
  · rw [e]
    repeat rw [if_neg (by omega)]
  · rw [gR_hpS, if_neg q]
  · rw [gR_hpS, if_pos ⟨rfl, rfl⟩]
  all_goals (rw [e]; repeat (first | rw [if_pos (by omega)] | rw [if_neg (by omega)]))
/-- at the beginning of a text -/
theorem Rel.start {x : Txt} {o : Nat} {h k h' k' : MH} (ho : Oo o) (hS' : St h') (hSk : St k) (hT : TpC x h) (hr : ∀ i, i < 20 → gL h 1 i = rsv.getD i 0) (t1 : TokC (tks x 0) h') (s1 : Sm (hpS o h) h' W43) (hSk' : St k') (t2 : TokM (tks x 0) k') (s2 : Sm (kpS x.1 k) k' W66) (tp : TpM x k') : Rel x o 0 0 [] [] [] [] h k h' k' := by
  obtain ⟨a1, a2, a3, a4, a5, a6, a7, a8, a9, a10, a11, a12, a13, a14, a15, a16, b1, b2, b3, b4, b5, b6⟩ := hpS_I (o := o) ho (h := h)
  have hrn := Oo_rng ho
  have w43 : ∀ {a j : Nat}, ¬ a = 43 → wr W43 a j = false := fun {a j} w => by
    unfold W43 wr wr1
    simp only [List.any_cons, List.any_nil, show (43 == a) = false by simpa using fun z : 43 = a => w z.symm, Bool.false_and, Bool.or_self]
  have I : ∀ {a j : Nat}, ¬ a = 43 → gI h' a j = gI (hpS o h) a j := fun q => s1.I (w43 q)
  have w66 : ∀ {a j : Nat}, ¬ a = 66 → wr W66 a j = false := fun {a j} w => by
    unfold W66 wr wr1
    simp only [List.any_cons, List.any_nil, show (66 == a) = false by simpa using fun z : 66 = a => w z.symm, Bool.false_and, Bool.or_self]
  have nm : ∀ d m, gI h' (o + d) 1 = 0 → kd h' (o + d) = 4 → kd h' (o + d + 1) = 21 → gR h' (o + d) 0 = .ref (o + d + 1) → ln h' (o + d + 1) = m → m ≤ 12 → NmC (o + d) m [] h' := fun d m q1 q2 q3 q4 q5 q6 => ⟨⟨q2, by omega, q4, q3, q5, q6⟩, Nat.zero_le _, q1, fun j w hw => by simp at hw⟩
  have p0 : (0 : Nat) < 2 ^ 0 := by decide
  refine ⟨⟨⟨hS', ⟨hT.1, ?_, fun j hj => ?_⟩, t1, ⟨by rw [I (by omega)]; exact a7, by rw [I (by omega)]; exact a8, by rw [s1.R rfl]; exact a4⟩, fun j hj => by rw [s1.L rfl, a2]; exact hr j hj⟩, ⟨hSk', tp, t2, by rw [s2.I rfl]; unfold kpS; simp only [kd_sI, ln_sI, hl_sI, gL_sI, gR_sI, kd_sL, ln_sL, hl_sL, gI_sL, gR_sL, kd_sR, ln_sR, hl_sR, gI_sR, gL_sR, kd_cpI, ln_cpI, hl_cpI, gL_cpI, gR_cpI, gI_cpI, gI_sI, gL_sL, gR_sR, St_sI, St_sL, St_cpI, Nat.reduceEqDiff, Nat.reduceAdd, eq_self, false_and, and_false, true_and, and_true, and_self, if_true, if_false, false_or, or_false, true_or, or_true, not_true_eq_false, not_false_eq_true, reduceIte], by rw [s2.I rfl]; unfold kpS; simp only [kd_sI, ln_sI, hl_sI, gL_sI, gR_sI, kd_sL, ln_sL, hl_sL, gI_sL, gR_sL, kd_sR, ln_sR, hl_sR, gI_sR, gL_sR, kd_cpI, ln_cpI, hl_cpI, gL_cpI, gR_cpI, gI_cpI, gI_sI, gL_sL, gR_sR, St_sI, St_sL, St_cpI, Nat.reduceEqDiff, Nat.reduceAdd, eq_self, false_and, and_false, true_and, and_true, and_self, if_true, if_false, false_or, or_false, true_or, or_true, not_true_eq_false, not_false_eq_true, reduceIte]⟩⟩, ⟨⟨s1.1.trans a5, fun a j q1 q2 q3 => ?_⟩, ⟨⟨⟨s2.1.trans (hl_kpS _ _), by rw [s2.I rfl]; unfold kpS; simp only [kd_sI, ln_sI, hl_sI, gL_sI, gR_sI, kd_sL, ln_sL, hl_sL, gI_sL, gR_sL, kd_sR, ln_sR, hl_sR, gI_sR, gL_sR, kd_cpI, ln_cpI, hl_cpI, gL_cpI, gR_cpI, gI_cpI, gI_sI, gL_sL, gR_sR, St_sI, St_sL, St_cpI, Nat.reduceEqDiff, Nat.reduceAdd, eq_self, false_and, and_false, true_and, and_true, and_self, if_true, if_false, false_or, or_false, true_or, or_true, not_true_eq_false, not_false_eq_true, reduceIte]⟩, fun z i hi => by
    obtain ⟨n, q1, q2⟩ := z i hi
    exact ⟨n, q1, by rw [s2.I (w66 (by omega)), gI_kpS _ _ _ _ (by omega)]; exact q2⟩⟩, fun a j q1 q2 q3 q4 => ?_⟩⟩, ⟨⟨nm 1 4 (by rw [I (by omega)]; exact a9) (KO_1 hS' ho) (KO_2 hS' ho) (FO_1_0 hS' ho) (NO_2 hS' ho) (by omega), ⟨List.nodup_nil, by simp, fun j w hw => by simp at hw⟩, by rw [s2.I rfl]; unfold kpS; simp only [kd_sI, ln_sI, hl_sI, gL_sI, gR_sI, kd_sL, ln_sL, hl_sL, gI_sL, gR_sL, kd_sR, ln_sR, hl_sR, gI_sR, gL_sR, kd_cpI, ln_cpI, hl_cpI, gL_cpI, gR_cpI, gI_cpI, gI_sI, gL_sL, gR_sR, St_sI, St_sL, St_cpI, Nat.reduceEqDiff, Nat.reduceAdd, eq_self, false_and, and_false, true_and, and_true, and_self, if_true, if_false, false_or, or_false, true_or, or_true, not_true_eq_false, not_false_eq_true, reduceIte]; rfl⟩, ⟨nm 4 3 (by rw [I (by omega)]; exact a10) (KO_4 hS' ho) (KO_5 hS' ho) (FO_4_0 hS' ho) (NO_5 hS' ho) (by omega), ⟨List.nodup_nil, by simp, fun j w hw => by simp at hw⟩, by rw [s2.I rfl]; unfold kpS; simp only [kd_sI, ln_sI, hl_sI, gL_sI, gR_sI, kd_sL, ln_sL, hl_sL, gI_sL, gR_sL, kd_sR, ln_sR, hl_sR, gI_sR, gL_sR, kd_cpI, ln_cpI, hl_cpI, gL_cpI, gR_cpI, gI_cpI, gI_sI, gL_sL, gR_sR, St_sI, St_sL, St_cpI, Nat.reduceEqDiff, Nat.reduceAdd, eq_self, false_and, and_false, true_and, and_true, and_self, if_true, if_false, false_or, or_false, true_or, or_true, not_true_eq_false, not_false_eq_true, reduceIte]; rfl⟩, nm 8 12 (by rw [I (by omega)]; exact a11) (KO_8 hS' ho) (KO_9 hS' ho) (FO_8_0 hS' ho) (NO_9 hS' ho) (by omega), ⟨List.nodup_nil, by simp, fun j w hw => by simp at hw⟩, by rw [s2.I rfl]; unfold kpS; simp only [kd_sI, ln_sI, hl_sI, gL_sI, gR_sI, kd_sL, ln_sL, hl_sL, gI_sL, gR_sL, kd_sR, ln_sR, hl_sR, gI_sR, gL_sR, kd_cpI, ln_cpI, hl_cpI, gL_cpI, gR_cpI, gI_cpI, gI_sI, gL_sL, gR_sR, St_sI, St_sL, St_cpI, Nat.reduceEqDiff, Nat.reduceAdd, eq_self, false_and, and_false, true_and, and_true, and_self, if_true, if_false, false_or, or_false, true_or, or_true, not_true_eq_false, not_false_eq_true, reduceIte]; rfl⟩, ⟨fun t ht => absurd ht (by simp), fun t ht => absurd ht (by simp), fun c hc => absurd hc (by omega), ⟨fun c _ hc => ?_, fun c hc => ⟨0, p0, ?_, fun y hy => absurd hy (by omega)⟩⟩, fun t ht => ⟨0, p0, ?_, fun c hc => absurd hc (by omega)⟩, ⟨0, p0, ?_, ?_⟩, ⟨0, p0, ?_, ?_⟩, ⟨0, by omega, ?_, ?_⟩, ⟨1, by omega, ?_, ?_⟩, ⟨0, by omega, ?_, ?_⟩, ⟨0, by omega, ?_, ?_⟩⟩, ⟨⟨?_, fun j s hj => by simp at hj, ?_⟩, ⟨0, by omega, by decide, ?_, ?_⟩, fun c hc => absurd hc (by simp), 0, by omega, ?_, ?_, fun z => absurd z (by omega), fun _ => ?_⟩, by show 4 * 0 ≤ _; omega⟩
  · have := s1.I (a := 43) (k := 1) rfl
    rw [this, a1 (by omega) (by omega)]
    exact hT.2.1
  · rw [I (by omega), a1 (by omega) (by omega)]
    exact hT.2.2 j hj
  · by_cases c : a = 43
    · subst c
      have w : wr W43 43 j = false := by
        unfold W43 wr wr1
        simp only [List.any_cons, List.any_nil, show (2 == j) = false by simpa using (show ¬ 2 = j by omega), show (3 == j) = false by simpa using (show ¬ 3 = j by omega), show (4 == j) = false by simpa using (show ¬ 4 = j by omega), show (5 == j) = false by simpa using (show ¬ 5 = j by omega), show (6 == j) = false by simpa using (show ¬ 6 = j by omega), Bool.and_false, Bool.or_self]
      exact ⟨(s1.I w).trans (a1 (by omega) (by omega)), (s1.L w).trans a2, (s1.R w).trans (a3 (by omega))⟩
    · exact ⟨(I c).trans (a1 q1 q3), (s1.L (w43 c)).trans a2, (s1.R (w43 c)).trans (a3 (by omega))⟩
  · by_cases c : a = 66
    · subst c
      have hj : 50 ≤ j ∨ j = 22 := by omega
      have w : wr W66 66 j = false := by
        unfold W66 wr wr1
        simp only [List.any_cons, List.any_nil, show (4 == j) = false by simpa using (show ¬ 4 = j by omega), show (6 == j) = false by simpa using (show ¬ 6 = j by omega), show (7 == j) = false by simpa using (show ¬ 7 = j by omega), show (8 == j) = false by simpa using (show ¬ 8 = j by omega), show (9 == j) = false by simpa using (show ¬ 9 = j by omega), Bool.and_false, Bool.or_self]
      exact ⟨(s2.I w).trans (gI_kpS _ _ _ _ (by omega)), (s2.L w).trans (gL_kpS _ _ _ _), (s2.R w).trans (gR_kpS _ _ _ _)⟩
    · exact ⟨(s2.I (w66 c)).trans (gI_kpS _ _ _ _ (by omega)), (s2.L (w66 c)).trans (gL_kpS _ _ _ _), (s2.R (w66 c)).trans (gR_kpS _ _ _ _)⟩
  · rw [I (by omega), I (by omega)]; exact ⟨(a13 c hc).1, (a13 c hc).2.1⟩
  · rw [I (by omega)]; exact (a13 c hc).2.2
  · rw [I (by omega)]; exact a12 t ht
  · rw [I (by omega)]; exact b1
  · rw [s2.I rfl]; unfold kpS; simp only [kd_sI, ln_sI, hl_sI, gL_sI, gR_sI, kd_sL, ln_sL, hl_sL, gI_sL, gR_sL, kd_sR, ln_sR, hl_sR, gI_sR, gL_sR, kd_cpI, ln_cpI, hl_cpI, gL_cpI, gR_cpI, gI_cpI, gI_sI, gL_sL, gR_sR, St_sI, St_sL, St_cpI, Nat.reduceEqDiff, Nat.reduceAdd, eq_self, false_and, and_false, true_and, and_true, and_self, if_true, if_false, false_or, or_false, true_or, or_true, not_true_eq_false, not_false_eq_true, reduceIte]; rfl
  · rw [I (by omega)]; exact b2
  · rw [s2.I rfl]; unfold kpS; simp only [kd_sI, ln_sI, hl_sI, gL_sI, gR_sI, kd_sL, ln_sL, hl_sL, gI_sL, gR_sL, kd_sR, ln_sR, hl_sR, gI_sR, gL_sR, kd_cpI, ln_cpI, hl_cpI, gL_cpI, gR_cpI, gI_cpI, gI_sI, gL_sL, gR_sR, St_sI, St_sL, St_cpI, Nat.reduceEqDiff, Nat.reduceAdd, eq_self, false_and, and_false, true_and, and_true, and_self, if_true, if_false, false_or, or_false, true_or, or_true, not_true_eq_false, not_false_eq_true, reduceIte]; rfl
  · rw [I (by omega)]; exact b3
  · rw [s2.I rfl]; unfold kpS; simp only [kd_sI, ln_sI, hl_sI, gL_sI, gR_sI, kd_sL, ln_sL, hl_sL, gI_sL, gR_sL, kd_sR, ln_sR, hl_sR, gI_sR, gL_sR, kd_cpI, ln_cpI, hl_cpI, gL_cpI, gR_cpI, gI_cpI, gI_sI, gL_sL, gR_sR, St_sI, St_sL, St_cpI, Nat.reduceEqDiff, Nat.reduceAdd, eq_self, false_and, and_false, true_and, and_true, and_self, if_true, if_false, false_or, or_false, true_or, or_true, not_true_eq_false, not_false_eq_true, reduceIte]; rfl
  · rw [I (by omega)]; exact b4
  · rw [s2.I rfl]; unfold kpS; simp only [kd_sI, ln_sI, hl_sI, gL_sI, gR_sI, kd_sL, ln_sL, hl_sL, gI_sL, gR_sL, kd_sR, ln_sR, hl_sR, gI_sR, gL_sR, kd_cpI, ln_cpI, hl_cpI, gL_cpI, gR_cpI, gI_cpI, gI_sI, gL_sL, gR_sR, St_sI, St_sL, St_cpI, Nat.reduceEqDiff, Nat.reduceAdd, eq_self, false_and, and_false, true_and, and_true, and_self, if_true, if_false, false_or, or_false, true_or, or_true, not_true_eq_false, not_false_eq_true, reduceIte]; rfl
  · rw [I (by omega)]; exact b5
  · rw [s2.I rfl]; unfold kpS; simp only [kd_sI, ln_sI, hl_sI, gL_sI, gR_sI, kd_sL, ln_sL, hl_sL, gI_sL, gR_sL, kd_sR, ln_sR, hl_sR, gI_sR, gL_sR, kd_cpI, ln_cpI, hl_cpI, gL_cpI, gR_cpI, gI_cpI, gI_sI, gL_sL, gR_sR, St_sI, St_sL, St_cpI, Nat.reduceEqDiff, Nat.reduceAdd, eq_self, false_and, and_false, true_and, and_true, and_self, if_true, if_false, false_or, or_false, true_or, or_true, not_true_eq_false, not_false_eq_true, reduceIte]; rfl
  · rw [I (by omega)]; exact b6
  · rw [s2.I rfl]; unfold kpS; simp only [kd_sI, ln_sI, hl_sI, gL_sI, gR_sI, kd_sL, ln_sL, hl_sL, gI_sL, gR_sL, kd_sR, ln_sR, hl_sR, gI_sR, gL_sR, kd_cpI, ln_cpI, hl_cpI, gL_cpI, gR_cpI, gI_cpI, gI_sI, gL_sL, gR_sR, St_sI, St_sL, St_cpI, Nat.reduceEqDiff, Nat.reduceAdd, eq_self, false_and, and_false, true_and, and_true, and_self, if_true, if_false, false_or, or_false, true_or, or_true, not_true_eq_false, not_false_eq_true, reduceIte]; rfl
  · rw [I (by omega)]; exact a14
  · unfold PrO; decide
  · rw [I (by omega)]; exact a15
  · rw [s2.I rfl]; unfold kpS; simp only [kd_sI, ln_sI, hl_sI, gL_sI, gR_sI, kd_sL, ln_sL, hl_sL, gI_sL, gR_sL, kd_sR, ln_sR, hl_sR, gI_sR, gL_sR, kd_cpI, ln_cpI, hl_cpI, gL_cpI, gR_cpI, gI_cpI, gI_sI, gL_sL, gR_sR, St_sI, St_sL, St_cpI, Nat.reduceEqDiff, Nat.reduceAdd, eq_self, false_and, and_false, true_and, and_true, and_self, if_true, if_false, false_or, or_false, true_or, or_true, not_true_eq_false, not_false_eq_true, reduceIte]; rfl
  · rw [I (by omega)]; exact a6
  · rw [s2.I rfl]; unfold kpS; simp only [kd_sI, ln_sI, hl_sI, gL_sI, gR_sI, kd_sL, ln_sL, hl_sL, gI_sL, gR_sL, kd_sR, ln_sR, hl_sR, gI_sR, gL_sR, kd_cpI, ln_cpI, hl_cpI, gL_cpI, gR_cpI, gI_cpI, gI_sI, gL_sL, gR_sR, St_sI, St_sL, St_cpI, Nat.reduceEqDiff, Nat.reduceAdd, eq_self, false_and, and_false, true_and, and_true, and_self, if_true, if_false, false_or, or_false, true_or, or_true, not_true_eq_false, not_false_eq_true, reduceIte]; rfl
  · rw [I (by omega)]; exact a16
