/-! the way back -/
theorem pth_fuel {C s0 : Nat} {E : List Ent} (w : Wl C s0 E) : ∀ n m j, j ≤ n → j ≤ m → pth E n j = pth E m j
  | 0, m, j, h1, h2 => by
    obtain rfl : j = 0 := by omega
    cases m with
    | zero => rfl
    | succ m => unfold pth; rw [if_pos rfl]
  | n + 1, 0, j, h1, h2 => by
    obtain rfl : j = 0 := by omega
    unfold pth; rw [if_pos rfl]
  | n + 1, m + 1, j, h1, h2 => by
    unfold pth
    by_cases c : j = 0
    · rw [if_pos c, if_pos c]
    · rw [if_neg c, if_neg c]
      cases e : E[j]? with
      | none => rfl
      | some x =>
        have := (w.2.2.2 j x e (by omega)).1
        show pth E n x.2.1 ++ [x.2.2] = pth E m x.2.1 ++ [x.2.2]
        rw [pth_fuel w n m x.2.1 (by omega) (by omega)]
abbrev pt (E : List Ent) (j : Nat) : List Nat := pth E j j
theorem pt_s {C s0 j : Nat} {E : List Ent} {e : Ent} (w : Wl C s0 E) (he : E[j]? = some e) (hj : 0 < j) : pt E j = pt E e.2.1 ++ [e.2.2] := by
  have h1 := (w.2.2.2 j e he hj).1
  obtain ⟨k, rfl⟩ : ∃ k, j = k + 1 := ⟨j - 1, by omega⟩
  show pth E (k + 1) (k + 1) = _
  rw [show pth E (k + 1) (k + 1) = (if k + 1 = 0 then [] else match E[k + 1]? with
    | some e => pth E k e.2.1 ++ [e.2.2]
    | none => []) from rfl, if_neg (by omega), he]
  show pth E k e.2.1 ++ [e.2.2] = _
  rw [pth_fuel w k e.2.1 e.2.1 (by omega) (Nat.le_refl _)]
theorem pt_len {C s0 : Nat} {E : List Ent} (w : Wl C s0 E) : ∀ n j, j ≤ n → j < E.length → (pt E j).length ≤ j
  | 0, j, h, _ => by
    obtain rfl : j = 0 := by omega
    exact Nat.le_refl _
  | n + 1, j, h, hl => by
    rcases Nat.eq_zero_or_pos j with z | z
    · subst z; exact Nat.le_refl _
    · have he : E[j]? = some E[j] := List.getElem?_eq_getElem hl
      have h1 := (w.2.2.2 j _ he z).1
      rw [pt_s w he z, List.length_append]
      have := pt_len w n (E[j]).2.1 (by omega) (by omega)
      simp
      omega
theorem pt_pfx {C s0 : Nat} {E E' : List Ent} (w : Wl C s0 E) (w' : Wl C s0 E') (px : Pfx E E') : ∀ n j, j ≤ n → j < E.length → pt E j = pt E' j
  | 0, j, h, _ => by
    obtain rfl : j = 0 := by omega
    rfl
  | n + 1, j, h, hl => by
    rcases Nat.eq_zero_or_pos j with z | z
    · subst z; rfl
    · have he : E[j]? = some E[j] := List.getElem?_eq_getElem hl
      have h1 := (w.2.2.2 j _ he z).1
      rw [pt_s w he z, pt_s w' (px.get he) z, pt_pfx w w' px n (E[j]).2.1 (by omega) (by omega)]
/-- the class's marks, read alone -/
def Mk (a : Nat) (E : List Ent) (h : MH) : Prop := kd h a = 7 ∧ 112 ≤ a ∧ gR h a 1 = .ref (a + 2) ∧ kd h (a + 2) = 22 ∧ ln h (a + 2) = 4096 ∧ ∀ (j : Nat) (e : Ent), E[j]? = some e → gI h (a + 2) e.1 = nI e.2.2
theorem s_Se_behind {a C s0 j : Nat} {E : List Ent} {e : Ent} {h : MH} (hM : Mk a E h) (w : Wl C s0 E) (hC : C ≤ 12) (he : E[j]? = some e) {μ : Nat} (hμ : 3 < μ) : cal 173 [.ref a, .int (nI e.1)] μ h = some (some (.int (b2i (decide (0 < j)))), h) := by
  obtain ⟨k1, k2, k3, k4, k5, k6⟩ := hM
  have ha2 : 2 ≤ a := by omega
  have hS : True := trivial
  have h12 := pw12 hC
  have hs := w.2.1 j e he
  have v := k6 j e he
  have bs : inBd (nI e.1) 4096 = true := inBd_nI (by omega) (by omega)
  have ts := tc_nI (show e.1 < 2147483648 by omega)
  have z1 := nI_nneg (show e.1 < 2147483648 by omega)
  have z2 : ((4096 : Int32) ≤ nI e.1) = False := by rw [show (4096 : Int32) = nI 4096 from rfl, le_nI (by omega) (by omega)]; exact eq_false (by omega)
  have nv := m1_ne (w.b12 hC j e he)
  rw [C_173 a _ μ h k1 ha2 hμ]
  rcases Nat.eq_zero_or_pos j with z | z
  · subst z
    rw [w.1] at he
    obtain rfl := Option.some.inj he
    have v' : gI h (a + 2) s0 = 12 := v
    have nv' : ¬ (12 : Int32) = -1 := by decide
    simp (disch := first | assumption | exact b2i_01 _ | decide | omega | (simp only [kd_sI, ln_sI, hl_sI, gL_sI, gR_sI, kd_sL, ln_sL, hl_sL, gI_sL, gR_sL, kd_sR, ln_sR, hl_sR, gI_sR, gL_sR, kd_cpI, ln_cpI, hl_cpI, gL_cpI, gR_cpI, gI_cpI, gI_sI, gL_sL, gR_sR, St_sI, St_sL, St_cpI, Nat.reduceEqDiff, Nat.reduceAdd, eq_self, false_and, and_false, true_and, and_true, and_self, if_true, if_false, false_or, or_false, true_or, or_true, not_true_eq_false, not_false_eq_true, reduceIte, K_66, F_66_0, F_66_10, F_66_11, F_66_12, F_66_13, F_66_14, F_66_15, F_66_16, F_66_17, F_66_18, F_66_25, F_66_26, F_66_27, F_66_28, F_66_29, F_66_30, F_66_31, F_66_32, F_66_33, F_66_34, F_66_35, F_66_36, F_66_37, F_66_38, F_66_39, F_66_60, F_66_61, F_66_62, F_66_63, F_66_66, F_66_68, F_66_69, F_66_71, F_66_72, F_66_73, F_66_74, F_66_77, F_66_78, F_66_79, F_66_80, F_66_81, F_66_84, F_66_85, F_66_86, F_66_87, hS, k1, ha2, k3, k4, k5, bs, ts, z1, z2, v', nv'] <;> first | done | decide | omega | fail) | fail) only [B_173_0, e_iload_n_1, e_if_lt, e_sipush_4096, e_ic_ge, e_aload_n_0, G_701, e_saload, e_iconst_m1, e_ic_eq, e_bipush_12, e_iconst_1, e_goto, T_173_36, B_173_36, e_iconst_0, e_gotow, T_173_37, B_173_37, R_173, eq_self, true_or, or_true, b2i_or, kd_sI, ln_sI, hl_sI, gL_sI, gR_sI, kd_sL, ln_sL, hl_sL, gI_sL, gR_sL, kd_sR, ln_sR, hl_sR, gI_sR, gL_sR, kd_cpI, ln_cpI, hl_cpI, gL_cpI, gR_cpI, gI_cpI, gI_sI, gL_sL, gR_sR, St_sI, St_sL, St_cpI, Nat.reduceEqDiff, Nat.reduceAdd, eq_self, false_and, and_false, true_and, and_true, and_self, if_true, if_false, false_or, or_false, true_or, or_true, not_true_eq_false, not_false_eq_true, reduceIte, K_66, F_66_0, F_66_10, F_66_11, F_66_12, F_66_13, F_66_14, F_66_15, F_66_16, F_66_17, F_66_18, F_66_25, F_66_26, F_66_27, F_66_28, F_66_29, F_66_30, F_66_31, F_66_32, F_66_33, F_66_34, F_66_35, F_66_36, F_66_37, F_66_38, F_66_39, F_66_60, F_66_61, F_66_62, F_66_63, F_66_66, F_66_68, F_66_69, F_66_71, F_66_72, F_66_73, F_66_74, F_66_77, F_66_78, F_66_79, F_66_80, F_66_81, F_66_84, F_66_85, F_66_86, F_66_87, k1, ha2, k3, k4, k5, bs, ts, z1, z2, v', nv']
    rfl
  · rw [decide_eq_true z, b2i_t]
    have hb := (w.2.2.2 j e he z).2.1
    have n12 : ¬ nI e.2.2 = 12 := fun q => by
      rw [show (12 : Int32) = nI 12 from rfl, eq_nI (by omega) (by omega)] at q
      omega
    simp (disch := first | assumption | exact b2i_01 _ | decide | omega | (simp only [kd_sI, ln_sI, hl_sI, gL_sI, gR_sI, kd_sL, ln_sL, hl_sL, gI_sL, gR_sL, kd_sR, ln_sR, hl_sR, gI_sR, gL_sR, kd_cpI, ln_cpI, hl_cpI, gL_cpI, gR_cpI, gI_cpI, gI_sI, gL_sL, gR_sR, St_sI, St_sL, St_cpI, Nat.reduceEqDiff, Nat.reduceAdd, eq_self, false_and, and_false, true_and, and_true, and_self, if_true, if_false, false_or, or_false, true_or, or_true, not_true_eq_false, not_false_eq_true, reduceIte, K_66, F_66_0, F_66_10, F_66_11, F_66_12, F_66_13, F_66_14, F_66_15, F_66_16, F_66_17, F_66_18, F_66_25, F_66_26, F_66_27, F_66_28, F_66_29, F_66_30, F_66_31, F_66_32, F_66_33, F_66_34, F_66_35, F_66_36, F_66_37, F_66_38, F_66_39, F_66_60, F_66_61, F_66_62, F_66_63, F_66_66, F_66_68, F_66_69, F_66_71, F_66_72, F_66_73, F_66_74, F_66_77, F_66_78, F_66_79, F_66_80, F_66_81, F_66_84, F_66_85, F_66_86, F_66_87, hS, k1, ha2, k3, k4, k5, bs, ts, z1, z2, v, nv, n12] <;> first | done | decide | omega | fail) | fail) only [B_173_0, e_iload_n_1, e_if_lt, e_sipush_4096, e_ic_ge, e_aload_n_0, G_701, e_saload, e_iconst_m1, e_ic_eq, e_bipush_12, e_iconst_1, e_goto, T_173_36, B_173_36, e_iconst_0, e_gotow, T_173_37, B_173_37, R_173, eq_self, true_or, or_true, b2i_or, kd_sI, ln_sI, hl_sI, gL_sI, gR_sI, kd_sL, ln_sL, hl_sL, gI_sL, gR_sL, kd_sR, ln_sR, hl_sR, gI_sR, gL_sR, kd_cpI, ln_cpI, hl_cpI, gL_cpI, gR_cpI, gI_cpI, gI_sI, gL_sL, gR_sR, St_sI, St_sL, St_cpI, Nat.reduceEqDiff, Nat.reduceAdd, eq_self, false_and, and_false, true_and, and_true, and_self, if_true, if_false, false_or, or_false, true_or, or_true, not_true_eq_false, not_false_eq_true, reduceIte, K_66, F_66_0, F_66_10, F_66_11, F_66_12, F_66_13, F_66_14, F_66_15, F_66_16, F_66_17, F_66_18, F_66_25, F_66_26, F_66_27, F_66_28, F_66_29, F_66_30, F_66_31, F_66_32, F_66_33, F_66_34, F_66_35, F_66_36, F_66_37, F_66_38, F_66_39, F_66_60, F_66_61, F_66_62, F_66_63, F_66_66, F_66_68, F_66_69, F_66_71, F_66_72, F_66_73, F_66_74, F_66_77, F_66_78, F_66_79, F_66_80, F_66_81, F_66_84, F_66_85, F_66_86, F_66_87, k1, ha2, k3, k4, k5, bs, ts, z1, z2, v, nv, n12]
theorem lp_Se_len {a C s0 : Nat} {E : List Ent} {h : MH} {g0 : Int32} {l5 : Option Value} (hM : Mk a E h) (w : Wl C s0 E) (hC : C ≤ 12) : ∀ n j e len, j ≤ n → E[j]? = some e → len + j ≤ 4095 → rn 172 5 B_172_5 [some (.ref a), some (.int g0), some (.ref 64), some (.int (nI len)), some (.int (nI e.1)), l5] [] h = rn 172 5 B_172_41 [some (.ref a), some (.int g0), some (.ref 64), some (.int (nI (len + (pt E j).length))), some (.int (nI s0)), l5] [] h := by
  have hM0 := hM
  obtain ⟨k1, k2, k3, k4, k5, k6⟩ := hM
  have ha2 : 2 ≤ a := by omega
  have hS : True := trivial
  have h12 := pw12 hC
  have e10 : ((1 : Int32) = 0) = False := by simp
  intro n
  induction n with
  | zero =>
    intro j e len hj he hl
    obtain rfl : j = 0 := by omega
    have f := s_Se_behind hM0 w hC he (μ := 5) (by omega)
    rw [w.1] at he
    obtain rfl := Option.some.inj he
    rw [B_172_5]
    rw [show decide (0 < 0) = false from rfl, b2i_f] at f
    simp (disch := first | assumption | exact b2i_01 _ | decide | omega | (simp only [kd_sI, ln_sI, hl_sI, gL_sI, gR_sI, kd_sL, ln_sL, hl_sL, gI_sL, gR_sL, kd_sR, ln_sR, hl_sR, gI_sR, gL_sR, kd_cpI, ln_cpI, hl_cpI, gL_cpI, gR_cpI, gI_cpI, gI_sI, gL_sL, gR_sR, St_sI, St_sL, St_cpI, Nat.reduceEqDiff, Nat.reduceAdd, eq_self, false_and, and_false, true_and, and_true, and_self, if_true, if_false, false_or, or_false, true_or, or_true, not_true_eq_false, not_false_eq_true, reduceIte, K_66, F_66_0, F_66_10, F_66_11, F_66_12, F_66_13, F_66_14, F_66_15, F_66_16, F_66_17, F_66_18, F_66_25, F_66_26, F_66_27, F_66_28, F_66_29, F_66_30, F_66_31, F_66_32, F_66_33, F_66_34, F_66_35, F_66_36, F_66_37, F_66_38, F_66_39, F_66_60, F_66_61, F_66_62, F_66_63, F_66_66, F_66_68, F_66_69, F_66_71, F_66_72, F_66_73, F_66_74, F_66_77, F_66_78, F_66_79, F_66_80, F_66_81, F_66_84, F_66_85, F_66_86, F_66_87, hS, f, List.length_nil, List.length_cons, Nat.zero_le] <;> first | done | decide | omega | fail) | fail) only [B_172_0, e_iconst_0, e_istore_n_3, clr_i, clr_l, clr_a, clr_n, e_iload_n_1, e_istore_4, e_gotow, T_172_5, e_aload_n_0, e_iload_4, e_call_2, psh_s, psh_n, Option.bind_some, e_if_eq, e_iload_n_3, e_sipush_4096, e_ic_ge, e_iinc_3_1, e_iconst_1, G_701, e_saload, e_ishl, e_ixor, e_goto, T_172_41, e_aload_n_2, e_isub, e_istore_5, T_172_54, B_172_54, e_iload_5, e_if_lt, e_call_3, e_iinc_4_m1, T_172_101, B_172_101, R_172, kd_sI, ln_sI, hl_sI, gL_sI, gR_sI, kd_sL, ln_sL, hl_sL, gI_sL, gR_sL, kd_sR, ln_sR, hl_sR, gI_sR, gL_sR, kd_cpI, ln_cpI, hl_cpI, gL_cpI, gR_cpI, gI_cpI, gI_sI, gL_sL, gR_sR, St_sI, St_sL, St_cpI, Nat.reduceEqDiff, Nat.reduceAdd, eq_self, false_and, and_false, true_and, and_true, and_self, if_true, if_false, false_or, or_false, true_or, or_true, not_true_eq_false, not_false_eq_true, reduceIte, K_66, F_66_0, F_66_10, F_66_11, F_66_12, F_66_13, F_66_14, F_66_15, F_66_16, F_66_17, F_66_18, F_66_25, F_66_26, F_66_27, F_66_28, F_66_29, F_66_30, F_66_31, F_66_32, F_66_33, F_66_34, F_66_35, F_66_36, F_66_37, F_66_38, F_66_39, F_66_60, F_66_61, F_66_62, F_66_63, F_66_66, F_66_68, F_66_69, F_66_71, F_66_72, F_66_73, F_66_74, F_66_77, F_66_78, F_66_79, F_66_80, F_66_81, F_66_84, F_66_85, F_66_86, F_66_87, f, List.length_nil, List.length_cons, Nat.zero_le]
    rfl
  | succ n ih =>
    intro j e len hj he hl
    have f := s_Se_behind hM0 w hC he (μ := 5) (by omega)
    rcases Nat.eq_zero_or_pos j with z | z
    · subst z
      rw [w.1] at he
      obtain rfl := Option.some.inj he
      rw [B_172_5]
      rw [show decide (0 < 0) = false from rfl, b2i_f] at f
      simp (disch := first | assumption | exact b2i_01 _ | decide | omega | (simp only [kd_sI, ln_sI, hl_sI, gL_sI, gR_sI, kd_sL, ln_sL, hl_sL, gI_sL, gR_sL, kd_sR, ln_sR, hl_sR, gI_sR, gL_sR, kd_cpI, ln_cpI, hl_cpI, gL_cpI, gR_cpI, gI_cpI, gI_sI, gL_sL, gR_sR, St_sI, St_sL, St_cpI, Nat.reduceEqDiff, Nat.reduceAdd, eq_self, false_and, and_false, true_and, and_true, and_self, if_true, if_false, false_or, or_false, true_or, or_true, not_true_eq_false, not_false_eq_true, reduceIte, K_66, F_66_0, F_66_10, F_66_11, F_66_12, F_66_13, F_66_14, F_66_15, F_66_16, F_66_17, F_66_18, F_66_25, F_66_26, F_66_27, F_66_28, F_66_29, F_66_30, F_66_31, F_66_32, F_66_33, F_66_34, F_66_35, F_66_36, F_66_37, F_66_38, F_66_39, F_66_60, F_66_61, F_66_62, F_66_63, F_66_66, F_66_68, F_66_69, F_66_71, F_66_72, F_66_73, F_66_74, F_66_77, F_66_78, F_66_79, F_66_80, F_66_81, F_66_84, F_66_85, F_66_86, F_66_87, hS, f, List.length_nil, List.length_cons, Nat.zero_le] <;> first | done | decide | omega | fail) | fail) only [B_172_0, e_iconst_0, e_istore_n_3, clr_i, clr_l, clr_a, clr_n, e_iload_n_1, e_istore_4, e_gotow, T_172_5, e_aload_n_0, e_iload_4, e_call_2, psh_s, psh_n, Option.bind_some, e_if_eq, e_iload_n_3, e_sipush_4096, e_ic_ge, e_iinc_3_1, e_iconst_1, G_701, e_saload, e_ishl, e_ixor, e_goto, T_172_41, e_aload_n_2, e_isub, e_istore_5, T_172_54, B_172_54, e_iload_5, e_if_lt, e_call_3, e_iinc_4_m1, T_172_101, B_172_101, R_172, kd_sI, ln_sI, hl_sI, gL_sI, gR_sI, kd_sL, ln_sL, hl_sL, gI_sL, gR_sL, kd_sR, ln_sR, hl_sR, gI_sR, gL_sR, kd_cpI, ln_cpI, hl_cpI, gL_cpI, gR_cpI, gI_cpI, gI_sI, gL_sL, gR_sR, St_sI, St_sL, St_cpI, Nat.reduceEqDiff, Nat.reduceAdd, eq_self, false_and, and_false, true_and, and_true, and_self, if_true, if_false, false_or, or_false, true_or, or_true, not_true_eq_false, not_false_eq_true, reduceIte, K_66, F_66_0, F_66_10, F_66_11, F_66_12, F_66_13, F_66_14, F_66_15, F_66_16, F_66_17, F_66_18, F_66_25, F_66_26, F_66_27, F_66_28, F_66_29, F_66_30, F_66_31, F_66_32, F_66_33, F_66_34, F_66_35, F_66_36, F_66_37, F_66_38, F_66_39, F_66_60, F_66_61, F_66_62, F_66_63, F_66_66, F_66_68, F_66_69, F_66_71, F_66_72, F_66_73, F_66_74, F_66_77, F_66_78, F_66_79, F_66_80, F_66_81, F_66_84, F_66_85, F_66_86, F_66_87, f, List.length_nil, List.length_cons, Nat.zero_le]
      rfl
    · obtain ⟨r1, r2, e', r3, r4⟩ := w.2.2.2 j e he z
      have hs := w.2.1 j e he
      rw [decide_eq_true z, b2i_t] at f
      have g := ih e.2.1 e' (len + 1) (by omega) r3 (by omega)
      rw [r4, ← xor_one (by omega) (by omega)] at g
      have v := k6 j e he
      have bs : inBd (nI e.1) 4096 = true := inBd_nI (by omega) (by omega)
      have ts := tc_nI (show e.1 < 2147483648 by omega)
      have z2 : ((4096 : Int32) ≤ nI len) = False := by rw [show (4096 : Int32) = nI 4096 from rfl, le_nI (by omega) (by omega)]; exact eq_false (by omega)
      rw [pt_s w he z, List.length_append]
      unfold one at g
      rw [B_172_5]
      have ef : len + ((pt E e.2.1).length + [e.2.2].length) = len + 1 + (pt E e.2.1).length := by simp; omega
      rw [ef]
      simp (disch := first | assumption | exact b2i_01 _ | decide | omega | (simp only [kd_sI, ln_sI, hl_sI, gL_sI, gR_sI, kd_sL, ln_sL, hl_sL, gI_sL, gR_sL, kd_sR, ln_sR, hl_sR, gI_sR, gL_sR, kd_cpI, ln_cpI, hl_cpI, gL_cpI, gR_cpI, gI_cpI, gI_sI, gL_sL, gR_sR, St_sI, St_sL, St_cpI, Nat.reduceEqDiff, Nat.reduceAdd, eq_self, false_and, and_false, true_and, and_true, and_self, if_true, if_false, false_or, or_false, true_or, or_true, not_true_eq_false, not_false_eq_true, reduceIte, K_66, F_66_0, F_66_10, F_66_11, F_66_12, F_66_13, F_66_14, F_66_15, F_66_16, F_66_17, F_66_18, F_66_25, F_66_26, F_66_27, F_66_28, F_66_29, F_66_30, F_66_31, F_66_32, F_66_33, F_66_34, F_66_35, F_66_36, F_66_37, F_66_38, F_66_39, F_66_60, F_66_61, F_66_62, F_66_63, F_66_66, F_66_68, F_66_69, F_66_71, F_66_72, F_66_73, F_66_74, F_66_77, F_66_78, F_66_79, F_66_80, F_66_81, F_66_84, F_66_85, F_66_86, F_66_87, hS, f, e10, z2, k1, ha2, k3, k4, k5, bs, ts, v, nI_1, g, Nat.zero_le, List.length_nil, List.length_cons] <;> first | done | decide | omega | fail) | fail) only [B_172_0, e_iconst_0, e_istore_n_3, clr_i, clr_l, clr_a, clr_n, e_iload_n_1, e_istore_4, e_gotow, T_172_5, e_aload_n_0, e_iload_4, e_call_2, psh_s, psh_n, Option.bind_some, e_if_eq, e_iload_n_3, e_sipush_4096, e_ic_ge, e_iinc_3_1, e_iconst_1, G_701, e_saload, e_ishl, e_ixor, e_goto, T_172_41, e_aload_n_2, e_isub, e_istore_5, T_172_54, B_172_54, e_iload_5, e_if_lt, e_call_3, e_iinc_4_m1, T_172_101, B_172_101, R_172, kd_sI, ln_sI, hl_sI, gL_sI, gR_sI, kd_sL, ln_sL, hl_sL, gI_sL, gR_sL, kd_sR, ln_sR, hl_sR, gI_sR, gL_sR, kd_cpI, ln_cpI, hl_cpI, gL_cpI, gR_cpI, gI_cpI, gI_sI, gL_sL, gR_sR, St_sI, St_sL, St_cpI, Nat.reduceEqDiff, Nat.reduceAdd, eq_self, false_and, and_false, true_and, and_true, and_self, if_true, if_false, false_or, or_false, true_or, or_true, not_true_eq_false, not_false_eq_true, reduceIte, K_66, F_66_0, F_66_10, F_66_11, F_66_12, F_66_13, F_66_14, F_66_15, F_66_16, F_66_17, F_66_18, F_66_25, F_66_26, F_66_27, F_66_28, F_66_29, F_66_30, F_66_31, F_66_32, F_66_33, F_66_34, F_66_35, F_66_36, F_66_37, F_66_38, F_66_39, F_66_60, F_66_61, F_66_62, F_66_63, F_66_66, F_66_68, F_66_69, F_66_71, F_66_72, F_66_73, F_66_74, F_66_77, F_66_78, F_66_79, F_66_80, F_66_81, F_66_84, F_66_85, F_66_86, F_66_87, f, e10, z2, k1, ha2, k3, k4, k5, bs, ts, v, nI_1, g, Nat.zero_le, List.length_nil, List.length_cons]
