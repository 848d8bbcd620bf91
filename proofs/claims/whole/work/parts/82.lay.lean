theorem s_Ly_write {i n b μ : Nat} {v : Int32} {h : MH} (hS : St h) (r : gR h 64 0 = .ref b) (hb : 65 ≤ b) (k : kd h b = 20) (hl : ln h b ≤ 4096) (hn : gI h 64 1 = nI n) (hi : i < n) (hi2 : n ≤ ln h b) (hμ : 3 < μ) : cal 175 [.ref 64, .int (nI i), .int v] μ h = some (none, sI h b i v) := by
  have ka : 20 ≤ kd h b ∧ kd h b ≤ 24 := by omega
  have hb2 : 2 ≤ b := by omega
  have bi : inBd (nI i) (ln h b) = true := inBd_nI (by omega) (by omega)
  have ti := tc_nI (show i < 2147483648 by omega)
  have z1 := nI_nneg (show i < 2147483648 by omega)
  have z2 : (nI n ≤ nI i) = False := by rw [le_nI (by omega) (by omega)]; exact eq_false (by omega)
  have z3 : (nI (ln h b) ≤ nI i) = False := by rw [le_nI (by omega) (by omega)]; exact eq_false (by omega)
  rw [C_175 64 _ _ μ _ (K_64 hS) (by decide) hμ]
  simp (disch := first | assumption | exact b2i_01 _ | decide | omega | (simp only [kd_sI, ln_sI, hl_sI, gL_sI, gR_sI, kd_sL, ln_sL, hl_sL, gI_sL, gR_sL, kd_sR, ln_sR, hl_sR, gI_sR, gL_sR, kd_cpI, ln_cpI, hl_cpI, gL_cpI, gR_cpI, gI_cpI, gI_sI, gL_sL, gR_sR, St_sI, St_sL, St_cpI, Nat.reduceEqDiff, Nat.reduceAdd, eq_self, false_and, and_false, true_and, and_true, and_self, if_true, if_false, false_or, or_false, true_or, or_true, not_true_eq_false, not_false_eq_true, reduceIte, K_64, hS, r, k, ka, hb2, hn, bi, ti, z1, z2, z3] <;> first | done | decide | omega | fail) | fail) only [B_175_0, e_iload_n_1, e_if_lt, e_aload_n_0, G_301, e_ic_ge, G_300, e_alen, e_iload_n_2, e_iastore, e_gotow, T_175_28, B_175_28, R_175, kd_sI, ln_sI, hl_sI, gL_sI, gR_sI, kd_sL, ln_sL, hl_sL, gI_sL, gR_sL, kd_sR, ln_sR, hl_sR, gI_sR, gL_sR, kd_cpI, ln_cpI, hl_cpI, gL_cpI, gR_cpI, gI_cpI, gI_sI, gL_sL, gR_sR, St_sI, St_sL, St_cpI, Nat.reduceEqDiff, Nat.reduceAdd, eq_self, false_and, and_false, true_and, and_true, and_self, if_true, if_false, false_or, or_false, true_or, or_true, not_true_eq_false, not_false_eq_true, reduceIte, K_64, r, k, ka, hb2, hn, bi, ti, z1, z2, z3]
theorem lp_Se_lay {a b C s0 tot : Nat} {E : List Ent} {g0 ln0 : Int32} (w : Wl C s0 E) (hC : C ≤ 12) (hb : 65 ≤ b) (hba : ¬ b = a) (hba2 : ¬ b = a + 2) : ∀ n j e T h, j ≤ n → E[j]? = some e → Mk a E h → St h → gR h 64 0 = .ref b → kd h b = 20 → ln h b ≤ 4096 → tot ≤ ln h b → gI h 64 1 = nI tot → (pt E j).length + T.length = tot → (∀ (i x : Nat), T[i]? = some x → gI h b ((pt E j).length + i) = nI x) → ∃ h', rn 172 5 B_172_54 [some (.ref a), some (.int g0), some (.ref 64), some (.int ln0), some (.int (nI (pt E j).length + (-1))), some (.int (nI e.1))] [] h = some (none, h') ∧ Sm h h' [(b, none)] ∧ ∀ (i x : Nat), (pt E j ++ T)[i]? = some x → gI h' b i = nI x := by
  have h12 := pw12 hC
  have e10 : ((1 : Int32) = 0) = False := by simp
  have base : ∀ e T h, E[0]? = some e → Mk a E h → St h → (∀ (i x : Nat), T[i]? = some x → gI h b ((pt E 0).length + i) = nI x) → ∃ h', rn 172 5 B_172_54 [some (.ref a), some (.int g0), some (.ref 64), some (.int ln0), some (.int (nI (pt E 0).length + (-1))), some (.int (nI e.1))] [] h = some (none, h') ∧ Sm h h' [(b, none)] ∧ ∀ (i x : Nat), (pt E 0 ++ T)[i]? = some x → gI h' b i = nI x := by
    intro e T h he hM hS hT
    have f := s_Se_behind hM w hC he (μ := 5) (by omega)
    rw [show decide (0 < 0) = false from rfl, b2i_f] at f
    refine ⟨h, ?_, Sm.rf h _, fun i x hx => ?_⟩
    · rw [B_172_54]
      simp (disch := first | assumption | exact b2i_01 _ | decide | omega | (simp only [kd_sI, ln_sI, hl_sI, gL_sI, gR_sI, kd_sL, ln_sL, hl_sL, gI_sL, gR_sL, kd_sR, ln_sR, hl_sR, gI_sR, gL_sR, kd_cpI, ln_cpI, hl_cpI, gL_cpI, gR_cpI, gI_cpI, gI_sI, gL_sL, gR_sR, St_sI, St_sL, St_cpI, Nat.reduceEqDiff, Nat.reduceAdd, eq_self, false_and, and_false, true_and, and_true, and_self, if_true, if_false, false_or, or_false, true_or, or_true, not_true_eq_false, not_false_eq_true, reduceIte, K_64, hS, f, List.length_nil, List.length_cons, Nat.zero_le] <;> first | done | decide | omega | fail) | fail) only [B_172_0, e_iconst_0, e_istore_n_3, clr_i, clr_l, clr_a, clr_n, e_iload_n_1, e_istore_4, e_gotow, T_172_5, B_172_5, e_aload_n_0, e_iload_4, e_call_2, psh_s, psh_n, Option.bind_some, e_if_eq, e_iload_n_3, e_sipush_4096, e_ic_ge, e_iinc_3_1, e_iconst_1, G_701, e_saload, e_ishl, e_ixor, e_goto, T_172_41, B_172_41, e_aload_n_2, e_isub, e_istore_5, T_172_54, e_iload_5, e_if_lt, e_call_3, e_iinc_4_m1, T_172_101, B_172_101, R_172, kd_sI, ln_sI, hl_sI, gL_sI, gR_sI, kd_sL, ln_sL, hl_sL, gI_sL, gR_sL, kd_sR, ln_sR, hl_sR, gI_sR, gL_sR, kd_cpI, ln_cpI, hl_cpI, gL_cpI, gR_cpI, gI_cpI, gI_sI, gL_sL, gR_sR, St_sI, St_sL, St_cpI, Nat.reduceEqDiff, Nat.reduceAdd, eq_self, false_and, and_false, true_and, and_true, and_self, if_true, if_false, false_or, or_false, true_or, or_true, not_true_eq_false, not_false_eq_true, reduceIte, K_64, f, List.length_nil, List.length_cons, Nat.zero_le]
    · have := hT i x hx
      rwa [show (pt E 0).length + i = i by show 0 + i = i; omega] at this
  intro n
  induction n with
  | zero =>
    intro j e T h hj he hM hS r k l0 l1 c0 hlen hT
    obtain rfl : j = 0 := by omega
    exact base e T h he hM hS hT
  | succ n ih =>
    intro j e T h hj he hM hS r k l0 l1 c0 hlen hT
    rcases Nat.eq_zero_or_pos j with z | z
    · subst z
      exact base e T h he hM hS hT
    · have f := s_Se_behind hM w hC he (μ := 5) (by omega)
      rw [decide_eq_true z, b2i_t] at f
      obtain ⟨k1, k2, k3, k4, k5, k6⟩ := hM
      have hM0 : Mk a E h := ⟨k1, k2, k3, k4, k5, k6⟩
      have ha2 : 2 ≤ a := by omega
      obtain ⟨r1, r2, e', r3, r4⟩ := w.2.2.2 j e he z
      have hs := w.2.1 j e he
      have v := k6 j e he
      have bs : inBd (nI e.1) 4096 = true := inBd_nI (by omega) (by omega)
      have ts := tc_nI (show e.1 < 2147483648 by omega)
      have ps := pt_s w he z
      obtain ⟨q, eq⟩ : ∃ q, q = (pt E e.2.1).length := ⟨_, rfl⟩
      have hpl : (pt E j).length = q + 1 := by rw [ps, List.length_append, eq]; rfl
      have m1 : nI (q + 1) + (-1) = nI q := pk_m1 q
      have wri := s_Ly_write (i := q) (v := nI e.2.2) hS r hb k l0 c0 (by omega) l1 (μ := 5) (by omega)
      obtain ⟨h1, eh1⟩ : ∃ h1, h1 = sI h b q (nI e.2.2) := ⟨_, rfl⟩
      rw [← eh1] at wri
      have s1 : Sm h h1 [(b, none)] := by rw [eh1]; exact (Sm.rf h _).sI (by simp [wr, wr1])
      have hS1 : St h1 := by rw [eh1]; exact hS
      have g64 : gI h1 64 1 = nI tot := by rw [eh1, gI_sI, if_neg (by omega)]; exact c0
      have hMk1 : Mk a E h1 := by
        rw [eh1]
        exact ⟨k1, k2, k3, k4, k5, fun j e he => by rw [gI_sI, if_neg (by omega)]; exact k6 j e he⟩
      obtain ⟨h2, g, s2, p2⟩ := ih e.2.1 e' (e.2.2 :: T) h1 (by omega) r3 hMk1 hS1 (by rw [eh1]; exact r) (by rw [eh1]; exact k) (by rw [eh1]; exact l0) (by rw [eh1]; exact l1) g64 (by rw [← eq, List.length_cons]; omega) (fun i x hx => by
        rw [← eq, eh1, gI_sI]
        cases i with
        | zero =>
          have : e.2.2 = x := by simpa using hx
          rw [if_pos ⟨rfl, by omega⟩, this]
        | succ i =>
          have hx' : T[i]? = some x := by simpa using hx
          rw [if_neg (fun y => by omega)]
          have := hT i x hx'
          rw [hpl] at this
          rwa [show q + 1 + i = q + (i + 1) by omega] at this)
      refine ⟨h2, ?_, s1.trans s2, ?_⟩
      · rw [← eq] at g
        rw [r4, ← xor_one (by omega) (by omega)] at g
        unfold one at g
        have z1 := nI_nneg (show q < 2147483648 by omega)
        have v1 : gI h1 (a + 2) e.1 = nI e.2.2 := hMk1.2.2.2.2.2 j e he
        obtain ⟨kk1, kk2, kk3, kk4, kk5, -⟩ := hMk1
        rw [hpl, m1, B_172_54]
        simp (disch := first | assumption | exact b2i_01 _ | decide | omega | (simp only [kd_sI, ln_sI, hl_sI, gL_sI, gR_sI, kd_sL, ln_sL, hl_sL, gI_sL, gR_sL, kd_sR, ln_sR, hl_sR, gI_sR, gL_sR, kd_cpI, ln_cpI, hl_cpI, gL_cpI, gR_cpI, gI_cpI, gI_sI, gL_sL, gR_sR, St_sI, St_sL, St_cpI, Nat.reduceEqDiff, Nat.reduceAdd, eq_self, false_and, and_false, true_and, and_true, and_self, if_true, if_false, false_or, or_false, true_or, or_true, not_true_eq_false, not_false_eq_true, reduceIte, K_64, hS, hS1, f, e10, z1, k1, ha2, k3, k4, k5, bs, ts, v, wri, kk1, kk3, kk4, kk5, v1, g, Nat.zero_le, List.length_nil, List.length_cons] <;> first | done | decide | omega | fail) | fail) only [B_172_0, e_iconst_0, e_istore_n_3, clr_i, clr_l, clr_a, clr_n, e_iload_n_1, e_istore_4, e_gotow, T_172_5, B_172_5, e_aload_n_0, e_iload_4, e_call_2, psh_s, psh_n, Option.bind_some, e_if_eq, e_iload_n_3, e_sipush_4096, e_ic_ge, e_iinc_3_1, e_iconst_1, G_701, e_saload, e_ishl, e_ixor, e_goto, T_172_41, B_172_41, e_aload_n_2, e_isub, e_istore_5, T_172_54, e_iload_5, e_if_lt, e_call_3, e_iinc_4_m1, T_172_101, B_172_101, R_172, kd_sI, ln_sI, hl_sI, gL_sI, gR_sI, kd_sL, ln_sL, hl_sL, gI_sL, gR_sL, kd_sR, ln_sR, hl_sR, gI_sR, gL_sR, kd_cpI, ln_cpI, hl_cpI, gL_cpI, gR_cpI, gI_cpI, gI_sI, gL_sL, gR_sR, St_sI, St_sL, St_cpI, Nat.reduceEqDiff, Nat.reduceAdd, eq_self, false_and, and_false, true_and, and_true, and_self, if_true, if_false, false_or, or_false, true_or, or_true, not_true_eq_false, not_false_eq_true, reduceIte, K_64, hS1, f, e10, z1, k1, ha2, k3, k4, k5, bs, ts, v, wri, kk1, kk3, kk4, kk5, v1, g, Nat.zero_le, List.length_nil, List.length_cons]
      · intro i x hx
        apply p2 i x
        rw [ps, List.append_assoc] at hx
        exact hx
