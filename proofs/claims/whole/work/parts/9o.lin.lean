/-! lines: trait, tree -/
theorem s_Na_add {a M : Nat} {N : List Int64} {w : Int64} {h : MH} (hN : NmC a M N h) (hl : N.length < M) {μ : Nat} (hμ : 3 < μ) : cal 63 [.ref a, .long w] μ h = some (none, sI (sL h (a + 1) N.length w) a 1 (nI (N.length + 1))) ∧ NmC a M (N ++ [w]) (sI (sL h (a + 1) N.length w) a 1 (nI (N.length + 1))) := by
  obtain ⟨⟨k1, k2, k3, k4, k5, k6⟩, n1, n2, n3⟩ := hN
  have b : inBd (nI N.length) (ln h (a + 1)) = true := by rw [k5]; exact inBd_nI (by omega) hl
  have t := tc_nI (show N.length < 2147483648 by omega)
  have n0 := nI_nneg (show N.length < 2147483648 by omega)
  have ha2 : 2 ≤ a + 1 := by omega
  constructor
  · rw [C_63 a w μ h k1 k2 hμ]
    simp (disch := first | assumption | omega | (simp only [kd_sL, kd_sI, ln_sL, gI_sL, gR_sL, k1, k3, k4, k5, b]; done)) only [B_63_0, e_aload_n_0, G_401, e_if_lt, G_400, e_alen, e_ic_ge, e_lload_n_1, e_lastore, e_dup_i, e_dup_a, e_iconst_1, e_iadd, P_401, e_gotow, T_63_39, B_63_39, R_63, kd_sL, gI_sL, gR_sL, k1, k2, k3, k4, k5, n2, n0, b, t, (eq_false (by simp (disch := omega) only [nI_lit, nI_add, lt_nI, le_nI, eq_nI] <;> omega) : (nI M ≤ nI N.length) = False), if_false, nI_1]
  · refine ⟨⟨k1, k2, k3, k4, k5, k6⟩, by rw [List.length_append, List.length_singleton]; omega, by rw [gI_sI, if_pos ⟨rfl, rfl⟩, List.length_append, List.length_singleton], fun j w' hj => ?_⟩
    rw [gL_sI, gL_sL]
    rw [getElem?_snoc] at hj
    by_cases c : j = N.length
    · rw [if_pos c] at hj
      rw [if_pos ⟨rfl, c⟩]
      exact Option.some.inj hj
    · rw [if_neg c] at hj
      rw [if_neg (fun z => c z.2)]
      exact n3 j w' hj
theorem fnd_mem {N : List Int64} {w : Int64} (h : ¬ fnd N w < N.length) : ¬ w ∈ N := fun c => by
  apply h
  clear h
  induction N with
  | nil => cases c
  | cons a N ih =>
    unfold fnd
    by_cases d : a = w
    · rw [if_pos d, List.length_cons]; omega
    · rw [if_neg d, List.length_cons]
      have := ih ((List.mem_cons.mp c).resolve_left (fun z => d z.symm))
      omega
theorem NmM.add {b : Nat} {N : List Int64} {w : Int64} {k : MH} (hN : NmM b N k) (h : ¬ fnd N w < N.length) (hb : b + N.length < 20) (hg : gL k 68 (b + N.length) = w) : NmM b (N ++ [w]) k := by
  refine ⟨List.nodup_append.mpr ⟨hN.1, by simp, fun a ha c hc => by rw [List.mem_singleton.mp hc]; intro z; rw [z] at ha; exact fnd_mem h ha⟩, by rw [List.length_append, List.length_singleton]; omega, fun j w' hj => ?_⟩
  rw [getElem?_snoc] at hj
  by_cases c : j = N.length
  · rw [if_pos c] at hj
    rw [c, hg]
    exact Option.some.inj hj
  · rw [if_neg c] at hj
    exact hN.2.2 j w' hj
theorem BsC.upd {x : Txt} {o i : Nat} {h h' : MH} (b : BsC x o i h) (hS : St h') (e : ∀ a j, a = 1 ∨ a = 43 ∨ a = 44 ∨ a = 45 → gI h' a j = gI h a j ∧ gL h' a j = gL h a j ∧ gR h' a j = gR h a j) : BsC x o i h' := by
  obtain ⟨g1, ⟨t0, t1, t2⟩, ⟨a1, a2, a3, a4, a5⟩, ⟨g4, g5, g6⟩, g7⟩ := b
  refine ⟨hS, ⟨t0, by rw [(e 43 1 (by omega)).1]; exact t1, fun j hj => by rw [(e 44 j (by omega)).1]; exact t2 j hj⟩, ⟨by rw [(e 43 2 (by omega)).1]; exact a1, by rw [(e 43 3 (by omega)).1]; exact a2, by rw [(e 43 6 (by omega)).1]; exact a3, fun z => by rw [(e 43 4 (by omega)).1]; exact a4 z, fun z => by rw [(e 43 5 (by omega)).2.1]; exact a5 z⟩, ⟨by rw [(e 45 4 (by omega)).1]; exact g4, by rw [(e 45 5 (by omega)).1]; exact g5, by rw [(e 45 1 (by omega)).2.2]; exact g6⟩, fun j hj => by rw [(e 1 j (by omega)).2.1]; exact g7 j hj⟩
theorem BsM.upd {x : Txt} {i : Nat} {k k' : MH} (b : BsM x i k) (hS : St k') (e : ∀ a j, (a = 66 ∧ j ≤ 9) ∨ a = 67 → gI k' a j = gI k a j ∧ gL k' a j = gL k a j) : BsM x i k' := by
  obtain ⟨g1, ⟨t0, t1, t2⟩, ⟨a1, a2, a3, a4, a5⟩, g4, g5⟩ := b
  exact ⟨hS, ⟨t0, by rw [(e 66 5 (by omega)).1]; exact t1, fun j hj => by rw [(e 67 j (by omega)).1]; exact t2 j hj⟩, ⟨by rw [(e 66 6 (by omega)).1]; exact a1, by rw [(e 66 7 (by omega)).1]; exact a2, fun z => by rw [(e 66 4 (by omega)).1]; exact a3 z, fun z => by rw [(e 66 8 (by omega)).1]; exact a4 z, fun z => by rw [(e 66 9 (by omega)).2]; exact a5 z⟩, by rw [(e 66 2 (by omega)).1]; exact g4, by rw [(e 66 3 (by omega)).1]; exact g5⟩
theorem FzC.sI {o a j : Nat} {v : Int32} {h0 h : MH} (f : FzC o h0 h) (c : (o ≤ a ∧ a ≤ o + 19) ∨ (a = 43 ∧ 2 ≤ j) ∨ a = 45) : FzC o h0 (sI h a j v) := ⟨f.1, fun y z h1 h2 h3 => ⟨by
  rw [gI_sI]
  by_cases q : y = a ∧ z = j
  · obtain ⟨rfl, rfl⟩ := q
    rcases c with c | c | c <;> contradiction
  · rw [if_neg q]; exact (f.2 y z h1 h2 h3).1, (f.2 y z h1 h2 h3).2.1, (f.2 y z h1 h2 h3).2.2⟩⟩
theorem FzC.sL {o a j : Nat} {v : Int64} {h0 h : MH} (f : FzC o h0 h) (c : (o ≤ a ∧ a ≤ o + 19) ∨ (a = 43 ∧ 2 ≤ j) ∨ a = 45) : FzC o h0 (sL h a j v) := ⟨f.1, fun y z h1 h2 h3 => ⟨(f.2 y z h1 h2 h3).1, by
  rw [gL_sL]
  by_cases q : y = a ∧ z = j
  · obtain ⟨rfl, rfl⟩ := q
    rcases c with c | c | c <;> contradiction
  · rw [if_neg q]; exact (f.2 y z h1 h2 h3).2.1, (f.2 y z h1 h2 h3).2.2⟩⟩
theorem FzM.sI {a j : Nat} {v : Int32} {k0 k : MH} (f : FzM k0 k) (c : (a = 66 ∧ j ≤ 49 ∧ ¬ j = 22 ∧ ¬ j = 1) ∨ (68 ≤ a ∧ a ≤ 70) ∨ a = 75 ∨ (77 ≤ a ∧ a ≤ 83)) : FzM k0 (sI k a j v) := ⟨⟨⟨f.1.1.1, by rw [gI_sI, if_neg (by omega)]; exact f.1.1.2⟩, fun z i hi => by
  obtain ⟨n, n1, n2⟩ := f.1.2 z i hi
  exact ⟨n, n1, by rw [gI_sI, if_neg (by omega)]; exact n2⟩⟩, fun y z h1 h2 h3 h4 => ⟨by
  rw [gI_sI]
  by_cases q : y = a ∧ z = j
  · omega
  · rw [if_neg q]; exact (f.2 y z h1 h2 h3 h4).1, (f.2 y z h1 h2 h3 h4).2.1, (f.2 y z h1 h2 h3 h4).2.2⟩⟩
theorem ln_trait {x : Txt} {o i : Nat} {T R C : List Int64} {pre : List (Int32 × Int32)} {h0 k0 h k : MH} (ho : Oo o) (r : Rel x o i C.length T R C pre h0 k0 h k) (hk : ¬ tkK (tks x i) = 1) (hT : T.length < 4) {μ ν : Nat} (hμ : 7 < μ) (hν : 6 < ν) : ∃ h' k', cal 54 [.ref 45] μ h = some (none, h') ∧ cal 218 [.ref 66] ν k = some (none, k') ∧ Out x o i h0 k0 h' k' := by
  have hS := r.1.1.1
  have hSk := r.1.2.1
  have hr := Oo_rng ho
  have o1 := r.1.1.2.2.2.1.2.2
  obtain ⟨NT, MT, cT⟩ := r.2.2.1.1
  obtain ⟨h1, s1, B1, m1⟩ := (c_startOf r.1.1 NT (μ := 7) (by omega)).1 hT
  have NT1 := NT.S m1 (by omega)
  have hS1 := B1.1
  have o11 := B1.2.2.2.1.2.2
  obtain ⟨ca, cb, cc⟩ := c_newName B1 NT1 (by omega) (μ := 7) (by omega)
  obtain ⟨ma, mb, mc⟩ := m_newName r.1.2 hk MT (by omega) (μ := 6) (by omega)
  have e10 : ((1 : Int32) = 0) = False := by simp
  have b4 : inBd (nI T.length) 4 = true := inBd_nI (by omega) hT
  have t4 := tc_nI (show T.length < 2147483648 by omega)
  -- a fault at the name
  have name_bad : ∀ h2 v k2 c p, cal 58 [.ref 45, .ref (o + 1)] 7 h1 = some (some (.long v), h2) → BC o c p h2 → Sm h1 h2 WS → cal 219 [.ref 66, .int (nI 0), .int (nI T.length)] 6 k = some (none, k2) → BM c p k2 → Sm k k2 WT → ∃ h' k', cal 54 [.ref 45] μ h = some (none, h') ∧ cal 218 [.ref 66] ν k = some (none, k') ∧ Out x o i h0 k0 h' k' := by
    intro h2 v k2 c p s2 B2 m2 t2 D2 n2
    obtain ⟨v3, s3⟩ := c_numberB (a := 2) (b := 4) B2 (μ := 7) (by omega)
    have hS2 := B2.1
    have nz := B2.nz
    have t3 := m_numberB (a := 2) (b := 4) D2 (μ := 6) (by omega)
    have hSk2 := D2.1
    have nzk := D2.nz.1
    have c2 : gI k2 66 40 = nI T.length := by rw [n2.I rfl]; exact cT
    have t2 : cal 219 [.ref 66, .int 0, .int (nI T.length)] 6 k = some (none, k2) := t2
    refine ⟨h2, sI k2 77 T.length 0, ?_, ?_, ?_⟩
    · rw [C_54 45  μ _ (K_45 hS) (by decide) hμ]
      simp (disch := first | assumption | exact b2i_01 _ | decide | omega | (simp only [kd_sI, ln_sI, hl_sI, gL_sI, gR_sI, kd_sL, ln_sL, hl_sL, gI_sL, gR_sL, kd_sR, ln_sR, hl_sR, gI_sR, gL_sR, kd_cpI, ln_cpI, hl_cpI, gL_cpI, gR_cpI, gI_cpI, gI_sI, gL_sL, gR_sR, St_sI, St_sL, St_cpI, Nat.reduceEqDiff, Nat.reduceAdd, eq_self, false_and, and_false, true_and, and_true, and_self, if_true, if_false, false_or, or_false, true_or, or_true, not_true_eq_false, not_false_eq_true, reduceIte, K_45, F_45_0, KO_0, KO_1, KO_2, NO_2, KO_3, NO_3, KO_4, KO_5, NO_5, KO_6, NO_6, KO_7, NO_7, KO_8, KO_9, NO_9, KO_10, NO_10, KO_11, NO_11, KO_12, NO_12, KO_13, NO_13, KO_14, NO_14, KO_15, KO_16, NO_16, KO_17, NO_17, KO_18, NO_18, KO_19, NO_19, FO_0_0, FO_0_1, FO_0_2, FO_0_3, FO_0_4, FO_0_5, FO_0_6, FO_0_7, FO_0_8, FO_0_9, FO_0_10, FO_0_11, FO_1_0, FO_4_0, FO_8_0, FO_15_0, FO_15_2, FO_15_3, FO_15_4, Oo_2, Oo_p, hS, o1, ho, s1, hS1, o11, s2, hS2, s3, nz, List.length_nil, List.length_cons, Nat.zero_le] <;> first | done | decide | omega | fail) | fail) only [B_54_0, e_aload_n_0, G_601, G_500, e_call_2, psh_s, psh_n, Option.bind_some, e_lstore_n_1, clr_i, clr_l, clr_a, clr_n, e_iconst_2, e_iconst_4, e_call_3, e_istore_n_3, G_604, e_if_ne, e_lload_n_1, e_iload_n_3, e_gotow, T_54_46, B_54_46, R_54, kd_sI, ln_sI, hl_sI, gL_sI, gR_sI, kd_sL, ln_sL, hl_sL, gI_sL, gR_sL, kd_sR, ln_sR, hl_sR, gI_sR, gL_sR, kd_cpI, ln_cpI, hl_cpI, gL_cpI, gR_cpI, gI_cpI, gI_sI, gL_sL, gR_sR, St_sI, St_sL, St_cpI, Nat.reduceEqDiff, Nat.reduceAdd, eq_self, false_and, and_false, true_and, and_true, and_self, if_true, if_false, false_or, or_false, true_or, or_true, not_true_eq_false, not_false_eq_true, reduceIte, K_45, F_45_0, KO_0, KO_1, KO_2, NO_2, KO_3, NO_3, KO_4, KO_5, NO_5, KO_6, NO_6, KO_7, NO_7, KO_8, KO_9, NO_9, KO_10, NO_10, KO_11, NO_11, KO_12, NO_12, KO_13, NO_13, KO_14, NO_14, KO_15, KO_16, NO_16, KO_17, NO_17, KO_18, NO_18, KO_19, NO_19, FO_0_0, FO_0_1, FO_0_2, FO_0_3, FO_0_4, FO_0_5, FO_0_6, FO_0_7, FO_0_8, FO_0_9, FO_0_10, FO_0_11, FO_1_0, FO_4_0, FO_8_0, FO_15_0, FO_15_2, FO_15_3, FO_15_4, Oo_2, Oo_p, o1, ho, s1, hS1, o11, s2, hS2, s3, nz, List.length_nil, List.length_cons, Nat.zero_le]
    · rw [C_218 66 ν k (K_66 hSk) (by decide) hν]
      have hS := hSk
      simp (disch := first | assumption | exact b2i_01 _ | decide | omega | (simp only [kd_sI, ln_sI, hl_sI, gL_sI, gR_sI, kd_sL, ln_sL, hl_sL, gI_sL, gR_sL, kd_sR, ln_sR, hl_sR, gI_sR, gL_sR, kd_cpI, ln_cpI, hl_cpI, gL_cpI, gR_cpI, gI_cpI, gI_sI, gL_sL, gR_sR, St_sI, St_sL, St_cpI, Nat.reduceEqDiff, Nat.reduceAdd, eq_self, false_and, and_false, true_and, and_true, and_self, if_true, if_false, false_or, or_false, true_or, or_true, not_true_eq_false, not_false_eq_true, reduceIte, K_66, F_66_0, F_66_10, F_66_11, F_66_12, F_66_13, F_66_14, F_66_15, F_66_16, F_66_17, F_66_18, F_66_25, F_66_26, F_66_27, F_66_28, F_66_29, F_66_30, F_66_31, F_66_32, F_66_33, F_66_34, F_66_35, F_66_36, F_66_37, F_66_38, F_66_39, F_66_60, F_66_61, F_66_62, F_66_63, F_66_66, F_66_68, F_66_69, F_66_71, F_66_72, F_66_73, F_66_74, F_66_77, F_66_78, F_66_79, F_66_80, F_66_81, F_66_84, F_66_85, F_66_86, F_66_87, K_77, N_77, hS, cT, t2, hSk2, c2, t3, b4, t4, nzk, List.length_nil, List.length_cons, Nat.zero_le] <;> first | done | decide | omega | fail) | fail) only [B_218_0, e_aload_n_0, e_iconst_0, G_1240, e_call_3, psh_s, psh_n, Option.bind_some, G_1225, e_iconst_2, e_iconst_4, e_iastore, G_1202, e_if_ne, e_dup_i, e_dup_a, e_iconst_1, e_iadd, P_1240, e_gotow, T_218_41, B_218_41, R_218, kd_sI, ln_sI, hl_sI, gL_sI, gR_sI, kd_sL, ln_sL, hl_sL, gI_sL, gR_sL, kd_sR, ln_sR, hl_sR, gI_sR, gL_sR, kd_cpI, ln_cpI, hl_cpI, gL_cpI, gR_cpI, gI_cpI, gI_sI, gL_sL, gR_sR, St_sI, St_sL, St_cpI, Nat.reduceEqDiff, Nat.reduceAdd, eq_self, false_and, and_false, true_and, and_true, and_self, if_true, if_false, false_or, or_false, true_or, or_true, not_true_eq_false, not_false_eq_true, reduceIte, K_66, F_66_0, F_66_10, F_66_11, F_66_12, F_66_13, F_66_14, F_66_15, F_66_16, F_66_17, F_66_18, F_66_25, F_66_26, F_66_27, F_66_28, F_66_29, F_66_30, F_66_31, F_66_32, F_66_33, F_66_34, F_66_35, F_66_36, F_66_37, F_66_38, F_66_39, F_66_60, F_66_61, F_66_62, F_66_63, F_66_66, F_66_68, F_66_69, F_66_71, F_66_72, F_66_73, F_66_74, F_66_77, F_66_78, F_66_79, F_66_80, F_66_81, F_66_84, F_66_85, F_66_86, F_66_87, K_77, N_77, cT, t2, hSk2, c2, t3, b4, t4, nzk, List.length_nil, List.length_cons, Nat.zero_le]
    · refine Or.inr ⟨c, p, B2, ⟨by simpa only [kd_sI, ln_sI, hl_sI, gL_sI, gR_sI, kd_sL, ln_sL, hl_sL, gI_sL, gR_sL, kd_sR, ln_sR, hl_sR, gI_sR, gL_sR, kd_cpI, ln_cpI, hl_cpI, gL_cpI, gR_cpI, gI_cpI, gI_sI, gL_sL, gR_sR, St_sI, St_sL, St_cpI, Nat.reduceEqDiff, Nat.reduceAdd, eq_self, false_and, and_false, true_and, and_true, and_self, if_true, if_false, false_or, or_false, true_or, or_true, not_true_eq_false, not_false_eq_true, reduceIte] using D2.1, by simp only [kd_sI, ln_sI, hl_sI, gL_sI, gR_sI, kd_sL, ln_sL, hl_sL, gI_sL, gR_sL, kd_sR, ln_sR, hl_sR, gI_sR, gL_sR, kd_cpI, ln_cpI, hl_cpI, gL_cpI, gR_cpI, gI_cpI, gI_sI, gL_sL, gR_sR, St_sI, St_sL, St_cpI, Nat.reduceEqDiff, Nat.reduceAdd, eq_self, false_and, and_false, true_and, and_true, and_self, if_true, if_false, false_or, or_false, true_or, or_true, not_true_eq_false, not_false_eq_true, reduceIte]; exact D2.2.1, by simp only [kd_sI, ln_sI, hl_sI, gL_sI, gR_sI, kd_sL, ln_sL, hl_sL, gI_sL, gR_sL, kd_sR, ln_sR, hl_sR, gI_sR, gL_sR, kd_cpI, ln_cpI, hl_cpI, gL_cpI, gR_cpI, gI_cpI, gI_sI, gL_sL, gR_sR, St_sI, St_sL, St_cpI, Nat.reduceEqDiff, Nat.reduceAdd, eq_self, false_and, and_false, true_and, and_true, and_self, if_true, if_false, false_or, or_false, true_or, or_true, not_true_eq_false, not_false_eq_true, reduceIte]; exact D2.2.2.1, D2.2.2.2⟩, (r.2.1.1.sm m1 WS_C).sm m2 WS_C, ((r.2.1.2.sm (WT_19 n2) WT_M).sI (by omega))⟩
  cases cn : nam (tks x (i + 1)) with
  | false =>
    obtain ⟨h2, v, s2, B2, m2⟩ := cb cn
    obtain ⟨k2, t2, D2, n2⟩ := mb cn
    exact name_bad h2 v k2 _ _ s2 B2 m2 t2 D2 n2
  | true =>
    by_cases cf : fnd T (tkW (tks x (i + 1))) < T.length
    · obtain ⟨h2, v, s2, B2, m2⟩ := cc cn cf
      obtain ⟨k2, t2, D2, n2⟩ := mc cn cf
      exact name_bad h2 v k2 _ _ s2 B2 m2 t2 D2 n2
    · obtain ⟨h2, s2, B2, m2⟩ := ca cn cf
      obtain ⟨k2, t2, D2, n2, w2⟩ := ma cn cf
      have t2 : cal 219 [.ref 66, .int 0, .int (nI T.length)] 6 k = some (none, k2) := t2
      have hS2 := B2.1
      have hSk2 := D2.1
      rw [Nat.zero_add] at n2 w2
      have c2 : gI k2 66 40 = nI T.length := by rw [n2.I (wT_66 (by omega))]; exact cT
      obtain ⟨na, nb, nc⟩ := c_number (a := 2) (b := 4) B2 (by omega) (by omega) (μ := 7) (by omega)
      obtain ⟨pa, pb, pc⟩ := m_number (a := 2) (b := 4) D2 (by omega) (by omega) (μ := 6) (by omega)
      have num_bad : ∀ h3 v k3 v' c p, cal 61 [.ref 45, .int (nI 2), .int (nI 4)] 7 h2 = some (some (.int v), h3) → BC o c p h3 → Sm h2 h3 WS → cal 224 [.ref 66, .int (nI 2), .int (nI 4)] 6 k2 = some (some (.int v'), k3) → BM c p k3 → Sm k2 k3 WT → ∃ h' k', cal 54 [.ref 45] μ h = some (none, h') ∧ cal 218 [.ref 66] ν k = some (none, k') ∧ Out x o i h0 k0 h' k' := by
        intro h3 v k3 v' c p s3 B3 m3 t3 D3 n3
        have s3 : cal 61 [.ref 45, .int 2, .int 4] 7 h2 = some (some (.int v), h3) := s3
        have t3 : cal 224 [.ref 66, .int 2, .int 4] 6 k2 = some (some (.int v'), k3) := t3
        have hS3 := B3.1
        have nz := B3.nz
        have hSk3 := D3.1
        have nzk := D3.nz.1
        refine ⟨h3, sI k3 77 T.length v', ?_, ?_, ?_⟩
        · rw [C_54 45  μ _ (K_45 hS) (by decide) hμ]
          simp (disch := first | assumption | exact b2i_01 _ | decide | omega | (simp only [kd_sI, ln_sI, hl_sI, gL_sI, gR_sI, kd_sL, ln_sL, hl_sL, gI_sL, gR_sL, kd_sR, ln_sR, hl_sR, gI_sR, gL_sR, kd_cpI, ln_cpI, hl_cpI, gL_cpI, gR_cpI, gI_cpI, gI_sI, gL_sL, gR_sR, St_sI, St_sL, St_cpI, Nat.reduceEqDiff, Nat.reduceAdd, eq_self, false_and, and_false, true_and, and_true, and_self, if_true, if_false, false_or, or_false, true_or, or_true, not_true_eq_false, not_false_eq_true, reduceIte, K_45, F_45_0, KO_0, KO_1, KO_2, NO_2, KO_3, NO_3, KO_4, KO_5, NO_5, KO_6, NO_6, KO_7, NO_7, KO_8, KO_9, NO_9, KO_10, NO_10, KO_11, NO_11, KO_12, NO_12, KO_13, NO_13, KO_14, NO_14, KO_15, KO_16, NO_16, KO_17, NO_17, KO_18, NO_18, KO_19, NO_19, FO_0_0, FO_0_1, FO_0_2, FO_0_3, FO_0_4, FO_0_5, FO_0_6, FO_0_7, FO_0_8, FO_0_9, FO_0_10, FO_0_11, FO_1_0, FO_4_0, FO_8_0, FO_15_0, FO_15_2, FO_15_3, FO_15_4, Oo_2, Oo_p, hS, o1, ho, s1, hS1, o11, s2, hS2, s3, hS3, nz, List.length_nil, List.length_cons, Nat.zero_le] <;> first | done | decide | omega | fail) | fail) only [B_54_0, e_aload_n_0, G_601, G_500, e_call_2, psh_s, psh_n, Option.bind_some, e_lstore_n_1, clr_i, clr_l, clr_a, clr_n, e_iconst_2, e_iconst_4, e_call_3, e_istore_n_3, G_604, e_if_ne, e_lload_n_1, e_iload_n_3, e_gotow, T_54_46, B_54_46, R_54, kd_sI, ln_sI, hl_sI, gL_sI, gR_sI, kd_sL, ln_sL, hl_sL, gI_sL, gR_sL, kd_sR, ln_sR, hl_sR, gI_sR, gL_sR, kd_cpI, ln_cpI, hl_cpI, gL_cpI, gR_cpI, gI_cpI, gI_sI, gL_sL, gR_sR, St_sI, St_sL, St_cpI, Nat.reduceEqDiff, Nat.reduceAdd, eq_self, false_and, and_false, true_and, and_true, and_self, if_true, if_false, false_or, or_false, true_or, or_true, not_true_eq_false, not_false_eq_true, reduceIte, K_45, F_45_0, KO_0, KO_1, KO_2, NO_2, KO_3, NO_3, KO_4, KO_5, NO_5, KO_6, NO_6, KO_7, NO_7, KO_8, KO_9, NO_9, KO_10, NO_10, KO_11, NO_11, KO_12, NO_12, KO_13, NO_13, KO_14, NO_14, KO_15, KO_16, NO_16, KO_17, NO_17, KO_18, NO_18, KO_19, NO_19, FO_0_0, FO_0_1, FO_0_2, FO_0_3, FO_0_4, FO_0_5, FO_0_6, FO_0_7, FO_0_8, FO_0_9, FO_0_10, FO_0_11, FO_1_0, FO_4_0, FO_8_0, FO_15_0, FO_15_2, FO_15_3, FO_15_4, Oo_2, Oo_p, o1, ho, s1, hS1, o11, s2, hS2, s3, hS3, nz, List.length_nil, List.length_cons, Nat.zero_le]
        · rw [C_218 66 ν k (K_66 hSk) (by decide) hν]
          have hS := hSk
          simp (disch := first | assumption | exact b2i_01 _ | decide | omega | (simp only [kd_sI, ln_sI, hl_sI, gL_sI, gR_sI, kd_sL, ln_sL, hl_sL, gI_sL, gR_sL, kd_sR, ln_sR, hl_sR, gI_sR, gL_sR, kd_cpI, ln_cpI, hl_cpI, gL_cpI, gR_cpI, gI_cpI, gI_sI, gL_sL, gR_sR, St_sI, St_sL, St_cpI, Nat.reduceEqDiff, Nat.reduceAdd, eq_self, false_and, and_false, true_and, and_true, and_self, if_true, if_false, false_or, or_false, true_or, or_true, not_true_eq_false, not_false_eq_true, reduceIte, K_66, F_66_0, F_66_10, F_66_11, F_66_12, F_66_13, F_66_14, F_66_15, F_66_16, F_66_17, F_66_18, F_66_25, F_66_26, F_66_27, F_66_28, F_66_29, F_66_30, F_66_31, F_66_32, F_66_33, F_66_34, F_66_35, F_66_36, F_66_37, F_66_38, F_66_39, F_66_60, F_66_61, F_66_62, F_66_63, F_66_66, F_66_68, F_66_69, F_66_71, F_66_72, F_66_73, F_66_74, F_66_77, F_66_78, F_66_79, F_66_80, F_66_81, F_66_84, F_66_85, F_66_86, F_66_87, K_77, N_77, hS, cT, t2, hSk2, c2, t3, hSk3, b4, t4, nzk, List.length_nil, List.length_cons, Nat.zero_le] <;> first | done | decide | omega | fail) | fail) only [B_218_0, e_aload_n_0, e_iconst_0, G_1240, e_call_3, psh_s, psh_n, Option.bind_some, G_1225, e_iconst_2, e_iconst_4, e_iastore, G_1202, e_if_ne, e_dup_i, e_dup_a, e_iconst_1, e_iadd, P_1240, e_gotow, T_218_41, B_218_41, R_218, kd_sI, ln_sI, hl_sI, gL_sI, gR_sI, kd_sL, ln_sL, hl_sL, gI_sL, gR_sL, kd_sR, ln_sR, hl_sR, gI_sR, gL_sR, kd_cpI, ln_cpI, hl_cpI, gL_cpI, gR_cpI, gI_cpI, gI_sI, gL_sL, gR_sR, St_sI, St_sL, St_cpI, Nat.reduceEqDiff, Nat.reduceAdd, eq_self, false_and, and_false, true_and, and_true, and_self, if_true, if_false, false_or, or_false, true_or, or_true, not_true_eq_false, not_false_eq_true, reduceIte, K_66, F_66_0, F_66_10, F_66_11, F_66_12, F_66_13, F_66_14, F_66_15, F_66_16, F_66_17, F_66_18, F_66_25, F_66_26, F_66_27, F_66_28, F_66_29, F_66_30, F_66_31, F_66_32, F_66_33, F_66_34, F_66_35, F_66_36, F_66_37, F_66_38, F_66_39, F_66_60, F_66_61, F_66_62, F_66_63, F_66_66, F_66_68, F_66_69, F_66_71, F_66_72, F_66_73, F_66_74, F_66_77, F_66_78, F_66_79, F_66_80, F_66_81, F_66_84, F_66_85, F_66_86, F_66_87, K_77, N_77, cT, t2, hSk2, c2, t3, hSk3, b4, t4, nzk, List.length_nil, List.length_cons, Nat.zero_le]
        · refine Or.inr ⟨c, p, B3, ⟨by simpa only [kd_sI, ln_sI, hl_sI, gL_sI, gR_sI, kd_sL, ln_sL, hl_sL, gI_sL, gR_sL, kd_sR, ln_sR, hl_sR, gI_sR, gL_sR, kd_cpI, ln_cpI, hl_cpI, gL_cpI, gR_cpI, gI_cpI, gI_sI, gL_sL, gR_sR, St_sI, St_sL, St_cpI, Nat.reduceEqDiff, Nat.reduceAdd, eq_self, false_and, and_false, true_and, and_true, and_self, if_true, if_false, false_or, or_false, true_or, or_true, not_true_eq_false, not_false_eq_true, reduceIte] using D3.1, by simp only [kd_sI, ln_sI, hl_sI, gL_sI, gR_sI, kd_sL, ln_sL, hl_sL, gI_sL, gR_sL, kd_sR, ln_sR, hl_sR, gI_sR, gL_sR, kd_cpI, ln_cpI, hl_cpI, gL_cpI, gR_cpI, gI_cpI, gI_sI, gL_sL, gR_sR, St_sI, St_sL, St_cpI, Nat.reduceEqDiff, Nat.reduceAdd, eq_self, false_and, and_false, true_and, and_true, and_self, if_true, if_false, false_or, or_false, true_or, or_true, not_true_eq_false, not_false_eq_true, reduceIte]; exact D3.2.1, by simp only [kd_sI, ln_sI, hl_sI, gL_sI, gR_sI, kd_sL, ln_sL, hl_sL, gI_sL, gR_sL, kd_sR, ln_sR, hl_sR, gI_sR, gL_sR, kd_cpI, ln_cpI, hl_cpI, gL_cpI, gR_cpI, gI_cpI, gI_sI, gL_sL, gR_sR, St_sI, St_sL, St_cpI, Nat.reduceEqDiff, Nat.reduceAdd, eq_self, false_and, and_false, true_and, and_true, and_self, if_true, if_false, false_or, or_false, true_or, or_true, not_true_eq_false, not_false_eq_true, reduceIte]; exact D3.2.2.1, D3.2.2.2⟩, ((r.2.1.1.sm m1 WS_C).sm m2 WS_C).sm m3 WS_C, ((r.2.1.2.sm n2 WT_M).sm (WT_19 n3) WT_M).sI (by omega)⟩
      by_cases c3 : tkK (tks x (i + 1 + 1)) = 3
      · by_cases c4 : 2 ≤ tkV (tks x (i + 1 + 1)) ∧ tkV (tks x (i + 1 + 1)) ≤ 4
        · obtain ⟨h3, s3, B3, m3⟩ := na c3 c4
          obtain ⟨k3, t3, D3, n3⟩ := pa c3 c4
          have s3 : cal 61 [.ref 45, .int 2, .int 4] 7 h2 = some (some (.int (nI (tkV (tks x (i + 1 + 1))))), h3) := s3
          have t3 : cal 224 [.ref 66, .int 2, .int 4] 6 k2 = some (some (.int (nI (tkV (tks x (i + 1 + 1))))), k3) := t3
          have R3 := r.fr ho ((m1.trans m2).trans m3) (n2.trans (n3.mono (fun q hq => List.mem_cons_of_mem _ hq))) (by omega) B3 D3 (by omega)
          have w3 : gL k3 68 T.length = tkW (tks x (i + 1)) := by rw [n3.L rfl]; exact w2
          have hS3 := B3.1
          have hSk3 := D3.1
          have f3 := B3.2.2.2.1.1
          have o13 := B3.2.2.2.1.2.2
          have g3 := D3.2.2.2.1
          have c403 := R3.2.2.1.1.2.2
          generalize tkV (tks x (i + 1 + 1)) = v at c4 s3 t3
          -- what is added
          have hN3 := R3.2.2.1.1.1
          have hN4 : NmC (o + 1) 4 T (sI h3 (o + 3) T.length (nI v)) := hN3.eq rfl rfl (by rw [gI_sI, if_neg (by omega)]) (fun j => rfl)
          obtain ⟨ad1, ad2⟩ := s_Na_add (w := tkW (tks x (i + 1))) hN4 hT (μ := 4) (by omega)
          have hT2 := hN3.2.2.1
          have add : cal 62 [.ref o, .long (tkW (tks x (i + 1))), .int (nI v)] 7 h3 = some (none, sI (sL (sI h3 (o + 3) T.length (nI v)) (o + 1 + 1) T.length (tkW (tks x (i + 1)))) (o + 1) 1 (nI (T.length + 1))) := by
            have full := s_Na_isFull hN3 (μ := 4) (by omega)
            rw [decide_eq_false (by omega), b2i_f] at full
            rw [C_62 o _ _ 7 h3 (KO_0 hS3 ho) (Oo_2 ho) (by omega)]
            have hS := hS3
            simp (disch := first | assumption | exact b2i_01 _ | decide | omega | (simp only [kd_sI, ln_sI, hl_sI, gL_sI, gR_sI, kd_sL, ln_sL, hl_sL, gI_sL, gR_sL, kd_sR, ln_sR, hl_sR, gI_sR, gL_sR, kd_cpI, ln_cpI, hl_cpI, gL_cpI, gR_cpI, gI_cpI, gI_sI, gL_sL, gR_sR, St_sI, St_sL, St_cpI, Nat.reduceEqDiff, Nat.reduceAdd, eq_self, false_and, and_false, true_and, and_true, and_self, if_true, if_false, false_or, or_false, true_or, or_true, not_true_eq_false, not_false_eq_true, reduceIte, KO_0, KO_1, KO_2, NO_2, KO_3, NO_3, KO_4, KO_5, NO_5, KO_6, NO_6, KO_7, NO_7, KO_8, KO_9, NO_9, KO_10, NO_10, KO_11, NO_11, KO_12, NO_12, KO_13, NO_13, KO_14, NO_14, KO_15, KO_16, NO_16, KO_17, NO_17, KO_18, NO_18, KO_19, NO_19, FO_0_0, FO_0_1, FO_0_2, FO_0_3, FO_0_4, FO_0_5, FO_0_6, FO_0_7, FO_0_8, FO_0_9, FO_0_10, FO_0_11, FO_1_0, FO_4_0, FO_8_0, FO_15_0, FO_15_2, FO_15_3, FO_15_4, Oo_2, Oo_p, hS, ho, full, hT2, b4, t4, ad1, List.length_nil, List.length_cons, Nat.zero_le] <;> first | done | decide | omega | fail) | fail) only [B_62_0, e_aload_n_0, G_500, e_call_1, psh_s, psh_n, Option.bind_some, e_if_ne, G_501, G_401, e_iload_n_3, e_iastore, e_lload_n_1, e_call_2, e_gotow, T_62_31, B_62_31, R_62, kd_sI, ln_sI, hl_sI, gL_sI, gR_sI, kd_sL, ln_sL, hl_sL, gI_sL, gR_sL, kd_sR, ln_sR, hl_sR, gI_sR, gL_sR, kd_cpI, ln_cpI, hl_cpI, gL_cpI, gR_cpI, gI_cpI, gI_sI, gL_sL, gR_sR, St_sI, St_sL, St_cpI, Nat.reduceEqDiff, Nat.reduceAdd, eq_self, false_and, and_false, true_and, and_true, and_self, if_true, if_false, false_or, or_false, true_or, or_true, not_true_eq_false, not_false_eq_true, reduceIte, KO_0, KO_1, KO_2, NO_2, KO_3, NO_3, KO_4, KO_5, NO_5, KO_6, NO_6, KO_7, NO_7, KO_8, KO_9, NO_9, KO_10, NO_10, KO_11, NO_11, KO_12, NO_12, KO_13, NO_13, KO_14, NO_14, KO_15, KO_16, NO_16, KO_17, NO_17, KO_18, NO_18, KO_19, NO_19, FO_0_0, FO_0_1, FO_0_2, FO_0_3, FO_0_4, FO_0_5, FO_0_6, FO_0_7, FO_0_8, FO_0_9, FO_0_10, FO_0_11, FO_1_0, FO_4_0, FO_8_0, FO_15_0, FO_15_2, FO_15_3, FO_15_4, Oo_2, Oo_p, ho, full, hT2, b4, t4, ad1, List.length_nil, List.length_cons, Nat.zero_le]
          refine ⟨sI (sL (sI h3 (o + 3) T.length (nI v)) (o + 1 + 1) T.length (tkW (tks x (i + 1)))) (o + 1) 1 (nI (T.length + 1)), sI (sI k3 77 T.length (nI v)) 66 40 (nI (T.length + 1)), ?_, ?_, Or.inl ⟨i + 1 + 1 + 1, T ++ [tkW (tks x (i + 1))], R, C, pre, by omega, ?_⟩⟩
          · rw [C_54 45  μ _ (K_45 hS) (by decide) hμ]
            simp (disch := first | assumption | exact b2i_01 _ | decide | omega | (simp only [kd_sI, ln_sI, hl_sI, gL_sI, gR_sI, kd_sL, ln_sL, hl_sL, gI_sL, gR_sL, kd_sR, ln_sR, hl_sR, gI_sR, gL_sR, kd_cpI, ln_cpI, hl_cpI, gL_cpI, gR_cpI, gI_cpI, gI_sI, gL_sL, gR_sR, St_sI, St_sL, St_cpI, Nat.reduceEqDiff, Nat.reduceAdd, eq_self, false_and, and_false, true_and, and_true, and_self, if_true, if_false, false_or, or_false, true_or, or_true, not_true_eq_false, not_false_eq_true, reduceIte, K_45, F_45_0, KO_0, KO_1, KO_2, NO_2, KO_3, NO_3, KO_4, KO_5, NO_5, KO_6, NO_6, KO_7, NO_7, KO_8, KO_9, NO_9, KO_10, NO_10, KO_11, NO_11, KO_12, NO_12, KO_13, NO_13, KO_14, NO_14, KO_15, KO_16, NO_16, KO_17, NO_17, KO_18, NO_18, KO_19, NO_19, FO_0_0, FO_0_1, FO_0_2, FO_0_3, FO_0_4, FO_0_5, FO_0_6, FO_0_7, FO_0_8, FO_0_9, FO_0_10, FO_0_11, FO_1_0, FO_4_0, FO_8_0, FO_15_0, FO_15_2, FO_15_3, FO_15_4, Oo_2, Oo_p, hS, o1, ho, s1, hS1, o11, s2, hS2, s3, hS3, f3, o13, add, List.length_nil, List.length_cons, Nat.zero_le] <;> first | done | decide | omega | fail) | fail) only [B_54_0, e_aload_n_0, G_601, G_500, e_call_2, psh_s, psh_n, Option.bind_some, e_lstore_n_1, clr_i, clr_l, clr_a, clr_n, e_iconst_2, e_iconst_4, e_call_3, e_istore_n_3, G_604, e_if_ne, e_lload_n_1, e_iload_n_3, e_gotow, T_54_46, B_54_46, R_54, kd_sI, ln_sI, hl_sI, gL_sI, gR_sI, kd_sL, ln_sL, hl_sL, gI_sL, gR_sL, kd_sR, ln_sR, hl_sR, gI_sR, gL_sR, kd_cpI, ln_cpI, hl_cpI, gL_cpI, gR_cpI, gI_cpI, gI_sI, gL_sL, gR_sR, St_sI, St_sL, St_cpI, Nat.reduceEqDiff, Nat.reduceAdd, eq_self, false_and, and_false, true_and, and_true, and_self, if_true, if_false, false_or, or_false, true_or, or_true, not_true_eq_false, not_false_eq_true, reduceIte, K_45, F_45_0, KO_0, KO_1, KO_2, NO_2, KO_3, NO_3, KO_4, KO_5, NO_5, KO_6, NO_6, KO_7, NO_7, KO_8, KO_9, NO_9, KO_10, NO_10, KO_11, NO_11, KO_12, NO_12, KO_13, NO_13, KO_14, NO_14, KO_15, KO_16, NO_16, KO_17, NO_17, KO_18, NO_18, KO_19, NO_19, FO_0_0, FO_0_1, FO_0_2, FO_0_3, FO_0_4, FO_0_5, FO_0_6, FO_0_7, FO_0_8, FO_0_9, FO_0_10, FO_0_11, FO_1_0, FO_4_0, FO_8_0, FO_15_0, FO_15_2, FO_15_3, FO_15_4, Oo_2, Oo_p, o1, ho, s1, hS1, o11, s2, hS2, s3, hS3, f3, o13, add, List.length_nil, List.length_cons, Nat.zero_le]
          · rw [C_218 66 ν k (K_66 hSk) (by decide) hν]
            have hS := hSk
            simp (disch := first | assumption | exact b2i_01 _ | decide | omega | (simp only [kd_sI, ln_sI, hl_sI, gL_sI, gR_sI, kd_sL, ln_sL, hl_sL, gI_sL, gR_sL, kd_sR, ln_sR, hl_sR, gI_sR, gL_sR, kd_cpI, ln_cpI, hl_cpI, gL_cpI, gR_cpI, gI_cpI, gI_sI, gL_sL, gR_sR, St_sI, St_sL, St_cpI, Nat.reduceEqDiff, Nat.reduceAdd, eq_self, false_and, and_false, true_and, and_true, and_self, if_true, if_false, false_or, or_false, true_or, or_true, not_true_eq_false, not_false_eq_true, reduceIte, K_66, F_66_0, F_66_10, F_66_11, F_66_12, F_66_13, F_66_14, F_66_15, F_66_16, F_66_17, F_66_18, F_66_25, F_66_26, F_66_27, F_66_28, F_66_29, F_66_30, F_66_31, F_66_32, F_66_33, F_66_34, F_66_35, F_66_36, F_66_37, F_66_38, F_66_39, F_66_60, F_66_61, F_66_62, F_66_63, F_66_66, F_66_68, F_66_69, F_66_71, F_66_72, F_66_73, F_66_74, F_66_77, F_66_78, F_66_79, F_66_80, F_66_81, F_66_84, F_66_85, F_66_86, F_66_87, K_77, N_77, hS, cT, t2, hSk2, c2, t3, hSk3, b4, t4, g3, c403, nI_1, List.length_nil, List.length_cons, Nat.zero_le] <;> first | done | decide | omega | fail) | fail) only [B_218_0, e_aload_n_0, e_iconst_0, G_1240, e_call_3, psh_s, psh_n, Option.bind_some, G_1225, e_iconst_2, e_iconst_4, e_iastore, G_1202, e_if_ne, e_dup_i, e_dup_a, e_iconst_1, e_iadd, P_1240, e_gotow, T_218_41, B_218_41, R_218, kd_sI, ln_sI, hl_sI, gL_sI, gR_sI, kd_sL, ln_sL, hl_sL, gI_sL, gR_sL, kd_sR, ln_sR, hl_sR, gI_sR, gL_sR, kd_cpI, ln_cpI, hl_cpI, gL_cpI, gR_cpI, gI_cpI, gI_sI, gL_sL, gR_sR, St_sI, St_sL, St_cpI, Nat.reduceEqDiff, Nat.reduceAdd, eq_self, false_and, and_false, true_and, and_true, and_self, if_true, if_false, false_or, or_false, true_or, or_true, not_true_eq_false, not_false_eq_true, reduceIte, K_66, F_66_0, F_66_10, F_66_11, F_66_12, F_66_13, F_66_14, F_66_15, F_66_16, F_66_17, F_66_18, F_66_25, F_66_26, F_66_27, F_66_28, F_66_29, F_66_30, F_66_31, F_66_32, F_66_33, F_66_34, F_66_35, F_66_36, F_66_37, F_66_38, F_66_39, F_66_60, F_66_61, F_66_62, F_66_63, F_66_66, F_66_68, F_66_69, F_66_71, F_66_72, F_66_73, F_66_74, F_66_77, F_66_78, F_66_79, F_66_80, F_66_81, F_66_84, F_66_85, F_66_86, F_66_87, K_77, N_77, cT, t2, hSk2, c2, t3, hSk3, b4, t4, g3, c403, nI_1, List.length_nil, List.length_cons, Nat.zero_le]
          · obtain ⟨-, ⟨f1, f2⟩, ⟨⟨n1', n2', n3'⟩, ⟨n4', n5', n6'⟩, n7', n8', n9'⟩, ⟨d1, d2, d3, d4, d5, d6⟩, fo, tp⟩ := R3
            have I : ∀ {a j : Nat}, ¬ a = o + 3 → ¬ a = o + 1 → gI (sI (sL (sI h3 (o + 3) T.length (nI v)) (o + 1 + 1) T.length (tkW (tks x (i + 1)))) (o + 1) 1 (nI (T.length + 1))) a j = gI h3 a j := fun q1 q2 => by
              rw [gI_sI, if_neg (fun z => q2 z.1), gI_sL, gI_sI, if_neg (fun z => q1 z.1)]
            have L : ∀ {a j : Nat}, ¬ a = o + 2 → gL (sI (sL (sI h3 (o + 3) T.length (nI v)) (o + 1 + 1) T.length (tkW (tks x (i + 1)))) (o + 1) 1 (nI (T.length + 1))) a j = gL h3 a j := fun {a j} q1 => by
              rw [gL_sI, gL_sL, if_neg (fun z => q1 z.1), gL_sI]
            have J : ∀ {a j : Nat}, ¬ (a = 77) → ¬ (a = 66 ∧ j = 40) → gI (sI (sI k3 77 T.length (nI v)) 66 40 (nI (T.length + 1))) a j = gI k3 a j := fun q1 q2 => by
              rw [gI_sI, if_neg q2, gI_sI, if_neg (fun z => q1 z.1)]
            have St3 : St (sI (sL (sI h3 (o + 3) T.length (nI v)) (o + 1 + 1) T.length (tkW (tks x (i + 1)))) (o + 1) 1 (nI (T.length + 1))) := by simpa only [kd_sI, ln_sI, hl_sI, gL_sI, gR_sI, kd_sL, ln_sL, hl_sL, gI_sL, gR_sL, kd_sR, ln_sR, hl_sR, gI_sR, gL_sR, kd_cpI, ln_cpI, hl_cpI, gL_cpI, gR_cpI, gI_cpI, gI_sI, gL_sL, gR_sR, St_sI, St_sL, St_cpI, Nat.reduceEqDiff, Nat.reduceAdd, eq_self, false_and, and_false, true_and, and_true, and_self, if_true, if_false, false_or, or_false, true_or, or_true, not_true_eq_false, not_false_eq_true, reduceIte] using hS3
            refine ⟨⟨B3.upd St3 (fun a j ha => ⟨I (by omega) (by omega), L (by omega), rfl⟩), D3.upd (by simpa only [kd_sI, ln_sI, hl_sI, gL_sI, gR_sI, kd_sL, ln_sL, hl_sL, gI_sL, gR_sL, kd_sR, ln_sR, hl_sR, gI_sR, gL_sR, kd_cpI, ln_cpI, hl_cpI, gL_cpI, gR_cpI, gI_cpI, gI_sI, gL_sL, gR_sR, St_sI, St_sL, St_cpI, Nat.reduceEqDiff, Nat.reduceAdd, eq_self, false_and, and_false, true_and, and_true, and_self, if_true, if_false, false_or, or_false, true_or, or_true, not_true_eq_false, not_false_eq_true, reduceIte] using hSk3) (fun a j ha => ⟨J (by omega) (by omega), rfl⟩)⟩, ⟨((f1.sI (by omega)).sL (by omega)).sI (by omega), (f2.sI (by omega)).sI (by omega)⟩, ⟨⟨ad2, ?_, by rw [gI_sI, if_pos ⟨rfl, rfl⟩, List.length_append, List.length_singleton]⟩, ⟨n4'.eq rfl rfl (I (by omega) (by omega)) (fun j => L (by omega)), n5'.eq (fun j => rfl), by rw [J (by omega) (by omega)]; exact n6'⟩, n7'.eq rfl rfl (I (by omega) (by omega)) (fun j => L (by omega)), n8'.eq (fun j => rfl), by rw [J (by omega) (by omega)]; exact n9'⟩, ⟨?_, d2.eq (fun j => I (by omega) (by omega)) (fun j => J (by omega) (by omega)), d3.eq (fun y j _ _ => I (by omega) (by omega)) (fun a j _ _ => J (by omega) (by omega)), d4.eq (fun y j _ _ => I (by omega) (by omega)) (fun j => J (by omega) (by omega)), d5.eq (fun j => I (by omega) (by omega)) (fun j => I (by omega) (by omega)), d6.eq (fun j _ _ => I (by omega) (by omega)) (fun j _ _ => J (by omega) (by omega))⟩, ?_, tp⟩
            · exact (n2'.add cf (by omega) (by rw [Nat.zero_add]; exact w3)).eq (fun j => rfl)
            · intro t ht
              rw [List.length_append, List.length_singleton] at ht
              by_cases q : t = T.length
              · exact ⟨v, c4.1, c4.2, by rw [gI_sI, if_neg (by omega), gI_sL, gI_sI, if_pos ⟨rfl, q⟩], by rw [gI_sI, if_neg (by omega), gI_sI, if_pos ⟨rfl, q⟩]⟩
              · obtain ⟨s, z1, z2, z3, z4⟩ := d1 t (by omega)
                exact ⟨s, z1, z2, by rw [gI_sI, if_neg (by omega), gI_sL, gI_sI, if_neg (fun z => q z.2)]; exact z3, by rw [gI_sI, if_neg (by omega), gI_sI, if_neg (fun z => q z.2)]; exact z4⟩
            · have fo' := fo.eq (h' := sI (sL (sI h3 (o + 3) T.length (nI v)) (o + 1 + 1) T.length (tkW (tks x (i + 1)))) (o + 1) 1 (nI (T.length + 1))) (k' := sI (sI k3 77 T.length (nI v)) 66 40 (nI (T.length + 1))) n7'.2.1 (fun y j _ _ => I (by omega) (by omega)) (I (by omega) (by omega)) ⟨J (by omega) (by omega), J (by omega) (by omega)⟩ (fun a j _ _ => J (by omega) (by omega))
              obtain ⟨x1, x2, x3, n, x4, x5, x6, x7, x8⟩ := fo'
              have mo : ∀ {c : Nat} {hh kk : MH}, FoR o c T.length pre hh kk → FoR o c (T ++ [tkW (tks x (i + 1))]).length pre hh kk := fun q => by
                have := q.mono (T' := (T ++ [tkW (tks x (i + 1))]).length) (by rw [List.length_append]; omega) []
                rwa [List.append_nil] at this
              exact ⟨x1, x2, fun c hc => mo (x3 c hc), n, x4, x5, x6, fun z => mo (x7 z), x8⟩
        · obtain ⟨h3, v, s3, B3, m3⟩ := nc c3 c4
          obtain ⟨k3, v', t3, D3, n3⟩ := pc c3 c4
          exact num_bad h3 v k3 v' _ _ s3 B3 m3 t3 D3 n3
      · obtain ⟨h3, v, s3, B3, m3⟩ := nb c3
        obtain ⟨k3, v', t3, D3, n3⟩ := pb c3
        exact num_bad h3 v k3 v' _ _ s3 B3 m3 t3 D3 n3
