/-- a clause's line -/
theorem ln_clause {x : Txt} {o i : Nat} {T R C : List Int64} {pre : List (Int32 × Int32)} {h0 k0 h k : MH} (ho : Oo o) (r : Rel x o i C.length T R C pre h0 k0 h k) (hk : ¬ tkK (tks x i) = 1) (hC : C.length < 12) {μ ν : Nat} (hμ : 87 < μ) (hν : 8 < ν) : ∃ h' k', cal 66 [.ref 45] μ h = some (none, h') ∧ cal 227 [.ref 66] ν k = some (none, k') ∧ LOut x o i h0 k0 h' k' := by
  have hr := Oo_rng ho
  have hS := r.1.1.1
  have hSk := r.1.2.1
  have hx := r.1.1.2.1.1
  have o0 := r.1.1.2.2.2.1.2.2
  have c0 := r.2.2.1.2.2.2.2
  have hR3 := r.2.2.1.2.1.1.2.1
  obtain ⟨h1, h2, v2, k1, s1, S1, o1, s2, t1, r1, c1, q1, Sk1⟩ := g_name ho r hk hC
  obtain ⟨h3, k2, s3, t2, r2, n2, S3, Sk2⟩ := g_word ho r1 28526 (μ := 87) (ν := 8) (by omega) (by omega)
  have c2 : gI k2 66 42 = nI C.length := by rw [n2.I rfl]; exact c1
  have q2 : gI k2 66 41 = nI R.length := by rw [n2.I rfl]; exact q1
  have o3 : gR h3 45 1 = .ref o := by
    rcases r2 with ⟨z, -⟩ | ⟨c, p, b1, -⟩
    · exact z.1.1.2.2.2.1.2.2
    · exact b1.2.2
  obtain ⟨h4, h5, v4, v3, k3, s4, S4, s5, S5, t3, Sk3, n3, out3⟩ := g_tree ho r2 hR3 (μ := 87) (ν := 8) (by omega) (by omega)
  have M1 := rc_M1 hSk hC c0 t1 t2 Sk2 c2 q2 t3 Sk3 hν
  rcases out3 with ⟨t, k4, ht, rfl, rfl, g3, t4, Sk4, r4, n4⟩ | ⟨g3, cB, pB, B5, D5, F5, G5⟩
  · rw [if_pos g3, t4] at M1
    obtain ⟨h6, h7, v7, v5, k5, s6, S6, s7, S7, t5, Sk5, n5, out5⟩ := g_says ho r4 Sk4 (μ := 87) (ν := 8) (by omega) (by omega)
    have M1 : cal 227 [.ref 66] ν k = rn 227 8 B_227_48 [some (.ref 66), some (.int (nI C.length)), none] [] k4 := M1
    rw [rc_M2 Sk4 hC t5 Sk5] at M1
    have CA := rc_A hS ho o0 s1 S1 o1 s2 s3 S3 o3 s4 S4 s5 s6 s7 S7 hμ
    rcases out5 with ⟨v, hv, rfl, rfl, f7, r5, w5, f5, -⟩ | ⟨f7, cB, pB, B7, D7, F7, G7⟩
    · rw [if_pos f7] at CA
      have h79 : gI k5 79 C.length = nI t := by
        rw [n5.I rfl, n4.I rfl, gI_sI, if_pos ⟨rfl, rfl⟩]
      obtain ⟨m, m1, m2, -⟩ := r5.2.2.2.1.2.2.2.2.1 t (by omega)
      have rM := r5.begin ho w5 hC ht h79 hv m2 m1
      have o7 := r5.1.1.2.2.2.1.2.2
      have NR := r5.2.2.1.2.1.1
      have NC := r5.2.2.1.2.2.1
      have s8 := s_Or_startClause (t := t) (v := v) S7 ho NR NC rfl hC ht (nI m) m2 (μ := 87) (by omega)
      obtain ⟨h9, k6, l2, s9, t6, out6⟩ := lp_marks ho 1601 _ 0 _ _ (by omega) (by omega) (by omega) rM
      have cC7 := NC.2.2.1
      rcases out6 with ⟨i6, hi6, r6⟩ | ⟨cB, pB, B9, D9, F9, G9⟩
      · -- the word if
        have C6 := c_word r6.1.1.1 26982 (μ := 87) (by omega)
        have W6 := m_want r6.1.1.2 26982 (μ := 8) (by omega)
        by_cases qi6 : tkK (tks x i6) = 2 ∧ tkW (tks x i6) = 26982
        · obtain ⟨h10, s10, B10, m10⟩ := C6.1 qi6
          obtain ⟨k7, t7, D7, n7⟩ := W6.1 qi6
          have r7 := r6.fr ho m10 n7 B10 D7 (by omega)
          obtain ⟨⟨-, fz7, nm7, da7, fo7, tp7⟩, w7, -⟩ := r7
          obtain ⟨x1, x2, x4, n, y1, y2, y3, y4, y5⟩ := fo7
          have hlt := tks_lt hx (show ¬ tkK (tks x i6) = 0 by omega)
          obtain ⟨h11, k8, s11, t8, e3, e4, e5⟩ := ln_form ho (w := C.length) (by omega) B10 D7 nm7.1.1 nm7.1.2.1 nm7.1.2.2 ⟨x1, x2⟩ tp7 (by omega) (μ := 87) (ν := 8) (by omega) (by omega)
          obtain ⟨g1, g2, g3', g4, g5, g6, g7⟩ := form_fr ho (w := C.length) (by omega) fz7 nm7 da7 e3 e4
          have S11 : St h11 := e3.St B10.1 (stb_FF ho)
          have Sk8 : St k8 := e4.St D7.1
          have o11 : gR h11 45 1 = .ref o := by
            rcases e5 with ⟨i', F, -, z, -⟩ | ⟨c, p, b1, -⟩
            · exact z.2.2.2.1.2.2
            · exact b1.2.2
          have CB := rc_C2 (v2 := v2) S7 ho o7 cC7 s8 rM.1.1.1.1 s9 s10 s11 S11 o11
          have MB := rc_M3 (l2 := l2) r6.1.1.2.1 t7 D7.1 D7.2.2.2.1 t8 Sk8 (by rw [(e4.2 66 42 (by unfold wrM; omega)).1]; exact nm7.2.2.2.2)
          rcases e5 with ⟨i', F, i1, i2, i3, i4, ⟨cd1, cd2⟩, i6'⟩ | ⟨c, p, b1, b2⟩
          · rw [if_pos i2.2.2.2.1.1] at CB
            rw [if_pos i3.2.2.2.1] at MB
            obtain ⟨ad1, ad2⟩ := s_Na_add (w := v2) g2.2.2.1 hC (μ := 87) (by omega)
            rw [ad1] at CB
            have St12 : St (sI (sL h11 (o + 8 + 1) C.length v2) (o + 8) 1 (nI (C.length + 1))) := by simpa only [kd_sI, ln_sI, hl_sI, gL_sI, gR_sI, kd_sL, ln_sL, hl_sL, gI_sL, gR_sL, kd_sR, ln_sR, hl_sR, gI_sR, gL_sR, kd_cpI, ln_cpI, hl_cpI, gL_cpI, gR_cpI, gI_cpI, gI_sI, gL_sL, gR_sR, St_sI, St_sL, St_cpI, Nat.reduceEqDiff, Nat.reduceAdd, eq_self, false_and, and_false, true_and, and_true, and_self, if_true, if_false, false_or, or_false, true_or, or_true, not_true_eq_false, not_false_eq_true, reduceIte] using S11
            have CB : _ = rn 66 87 B_66_132 [some (.ref 45), some (.long v2), none, some (.int (nI t)), some (.int (nI v)), some (.int (nI C.length))] [] (sI (sL h11 (o + 8 + 1) C.length v2) (o + 8) 1 (nI (C.length + 1))) := CB
            rw [rc_C3 St12] at CB
            refine ⟨sI (sL h11 (o + 8 + 1) C.length v2) (o + 8) 1 (nI (C.length + 1)), sI k8 66 42 (nI (C.length + 1)), by rw [CA, CB], by rw [M1, t6, MB], Or.inl ⟨i', T, R, C ++ [v2], pre ++ F, by omega, ?_⟩⟩
            have I : ∀ {a j : Nat}, ¬ a = o + 8 → gI (sI (sL h11 (o + 8 + 1) C.length v2) (o + 8) 1 (nI (C.length + 1))) a j = gI h11 a j := fun z => by rw [gI_sI, if_neg (fun y => z y.1), gI_sL]
            have L : ∀ {a j : Nat}, ¬ a = o + 9 → gL (sI (sL h11 (o + 8 + 1) C.length v2) (o + 8) 1 (nI (C.length + 1))) a j = gL h11 a j := fun {a j} z => by rw [gL_sI, gL_sL, if_neg (fun y => z y.1)]
            have J : ∀ {a j : Nat}, ¬ (a = 66 ∧ j = 42) → gI (sI k8 66 42 (nI (C.length + 1))) a j = gI k8 a j := fun z => by rw [gI_sI, if_neg z]
            obtain ⟨⟨n1', n2', n3'⟩, ⟨n4', n5', n6'⟩, n7', n8', n9'⟩ := g2
            obtain ⟨d1, d2, d3, d4, d5, d6⟩ := g3'
            have w8 : gL k8 68 (7 + C.length) = v2 := by rw [(e4.2 68 _ (by unfold wrM; omega)).2.1]; exact w7
            have hl1 : (C ++ [v2]).length = C.length + 1 := by rw [List.length_append, List.length_singleton]
            have FR : ∀ c T' P, FoR o c T' P h11 k8 → FoR o c T' P (sI (sL h11 (o + 8 + 1) C.length v2) (o + 8) 1 (nI (C.length + 1))) (sI k8 66 42 (nI (C.length + 1))) := fun c T' P f => f.eq (I (by omega)) (I (by omega)) (J (by omega)) (fun j _ _ => ⟨J (by omega), J (by omega)⟩)
            refine ⟨⟨i2.upd St12 (fun a j ha => ⟨I (by omega), L (by omega), rfl⟩), i3.upd (by simpa only [kd_sI, ln_sI, hl_sI, gL_sI, gR_sI, kd_sL, ln_sL, hl_sL, gI_sL, gR_sL, kd_sR, ln_sR, hl_sR, gI_sR, gL_sR, kd_cpI, ln_cpI, hl_cpI, gL_cpI, gR_cpI, gI_cpI, gI_sI, gL_sL, gR_sR, St_sI, St_sL, St_cpI, Nat.reduceEqDiff, Nat.reduceAdd, eq_self, false_and, and_false, true_and, and_true, and_self, if_true, if_false, false_or, or_false, true_or, or_true, not_true_eq_false, not_false_eq_true, reduceIte] using Sk8) (fun a j ha => ⟨J (by omega), rfl⟩)⟩, ⟨(g1.1.sL (by omega)).sI (by omega), g1.2.sI (by omega)⟩, ⟨⟨n1'.eq rfl rfl (I (by omega)) (fun j => L (by omega)), n2'.eq (fun j => rfl), by rw [J (by omega)]; exact n3'⟩, ⟨n4'.eq rfl rfl (I (by omega)) (fun j => L (by omega)), n5'.eq (fun j => rfl), by rw [J (by omega)]; exact n6'⟩, ad2, (n8'.add f5 (by omega) w8).eq (fun j => rfl), by rw [hl1, gI_sI, if_pos ⟨rfl, rfl⟩]⟩, ?_, ⟨⟨by rw [I (by omega)]; exact cd1.1, fun j s hj => by rw [I (by omega)]; exact cd1.2.1 j s hj, cd1.2.2⟩, ?_, fun c hc => ?_, n, y1, by rw [I (by omega), g5]; exact y2, by rw [J (by omega), g6]; exact y3, fun z => FR 12 _ _ (g4 12 _ _ _ (by omega) (by omega) (y4 z)), fun z => by rw [I (by omega), g7 12 (by omega)]; exact y5 z⟩, i6'⟩
            · rw [hl1]
              exact ⟨d1.eq (fun j => I (by omega)) (fun j => J (by omega)), d2.eq (fun j => I (by omega)) (fun j => J (by omega)), d3.eq (fun y j _ _ => I (by omega)) (fun a j _ _ => J (by omega)), d4.eq (fun y j _ _ => I (by omega)) (fun j => J (by omega)), d5.eq (fun j => I (by omega)) (fun j => I (by omega)), d6.eq (fun j _ _ => I (by omega)) (fun j _ _ => J (by omega))⟩
            · obtain ⟨u, u1, u2, u3, u4⟩ := cd2
              exact ⟨u, u1, u2, by rw [I (by omega)]; exact u3, by rw [J (by omega)]; exact u4⟩
            · rw [hl1] at hc
              by_cases e : c = C.length
              · rw [e]; exact FR _ _ _ i4
              · exact FR c _ _ (g4 c _ _ _ e (by omega) (x4 c (by omega)))
          · rw [if_neg b1.nz] at CB
            rw [if_neg b2.nz.1] at MB
            exact ⟨h11, k8, by rw [CA, CB], by rw [M1, t6, MB], Or.inr ⟨c, p, b1, b2, g1.1, g1.2⟩⟩
        · obtain ⟨h10, s10, B10, m10⟩ := C6.2 qi6
          obtain ⟨k7, t7, D7, n7⟩ := W6.2 qi6
          have s11 := c_formB (w := nI C.length) B10 (μ := 87) (by omega)
          have CB := rc_C2 (v2 := v2) S7 ho o7 cC7 s8 rM.1.1.1.1 s9 s10 s11 B10.1 B10.2.2
          rw [if_neg B10.nz] at CB
          have MB := rc_M3b (c := C.length) (l2 := l2) r6.1.1.2.1 t7 D7
          exact ⟨h10, k7, by rw [CA, CB], by rw [M1, t6, MB], Or.inr ⟨_, _, B10, D7, r6.1.2.1.1.sm m10 WS_C, r6.1.2.1.2.sm (WT_19 n7) WT_M⟩⟩
      · have s10 := c_wordB (w := 26982) B9 (μ := 87) (by omega)
        have s11 := c_formB (w := nI C.length) B9 (μ := 87) (by omega)
        have CB := rc_C2 (v2 := v2) S7 ho o7 cC7 s8 rM.1.1.1.1 s9 s10 s11 B9.1 B9.2.2
        rw [if_neg B9.nz] at CB
        exact ⟨h9, k6, by rw [CA, CB], by rw [M1, t6]; exact rc_Mb D9, Or.inr ⟨cB, pB, B9, D9, F9, G9⟩⟩
    · rw [if_neg f7] at CA
      have D8 : BM cB pB (sI (sI (sI (sI k5 80 C.length v5) 81 C.length 0) 82 C.length 0) 83 C.length 0) := ⟨by simpa only [kd_sI, ln_sI, hl_sI, gL_sI, gR_sI, kd_sL, ln_sL, hl_sL, gI_sL, gR_sL, kd_sR, ln_sR, hl_sR, gI_sR, gL_sR, kd_cpI, ln_cpI, hl_cpI, gL_cpI, gR_cpI, gI_cpI, gI_sI, gL_sL, gR_sR, St_sI, St_sL, St_cpI, Nat.reduceEqDiff, Nat.reduceAdd, eq_self, false_and, and_false, true_and, and_true, and_self, if_true, if_false, false_or, or_false, true_or, or_true, not_true_eq_false, not_false_eq_true, reduceIte] using D7.1, by simp only [kd_sI, ln_sI, hl_sI, gL_sI, gR_sI, kd_sL, ln_sL, hl_sL, gI_sL, gR_sL, kd_sR, ln_sR, hl_sR, gI_sR, gL_sR, kd_cpI, ln_cpI, hl_cpI, gL_cpI, gR_cpI, gI_cpI, gI_sI, gL_sL, gR_sR, St_sI, St_sL, St_cpI, Nat.reduceEqDiff, Nat.reduceAdd, eq_self, false_and, and_false, true_and, and_true, and_self, if_true, if_false, false_or, or_false, true_or, or_true, not_true_eq_false, not_false_eq_true, reduceIte]; exact D7.2.1, by simp only [kd_sI, ln_sI, hl_sI, gL_sI, gR_sI, kd_sL, ln_sL, hl_sL, gI_sL, gR_sL, kd_sR, ln_sR, hl_sR, gI_sR, gL_sR, kd_cpI, ln_cpI, hl_cpI, gL_cpI, gR_cpI, gI_cpI, gI_sI, gL_sL, gR_sR, St_sI, St_sL, St_cpI, Nat.reduceEqDiff, Nat.reduceAdd, eq_self, false_and, and_false, true_and, and_true, and_self, if_true, if_false, false_or, or_false, true_or, or_true, not_true_eq_false, not_false_eq_true, reduceIte]; exact D7.2.2.1, D7.2.2.2⟩
      refine ⟨h7, _, CA, by rw [M1, rc_Mb7 D8]; exact rc_Mb D8, Or.inr ⟨cB, pB, B7, D8, F7, (((G7.sI (by omega)).sI (by omega)).sI (by omega)).sI (by omega)⟩⟩
  · rw [if_neg g3] at M1
    have D6 : BM cB pB (sI k3 79 C.length v3) := ⟨by simpa only [kd_sI, ln_sI, hl_sI, gL_sI, gR_sI, kd_sL, ln_sL, hl_sL, gI_sL, gR_sL, kd_sR, ln_sR, hl_sR, gI_sR, gL_sR, kd_cpI, ln_cpI, hl_cpI, gL_cpI, gR_cpI, gI_cpI, gI_sI, gL_sL, gR_sR, St_sI, St_sL, St_cpI, Nat.reduceEqDiff, Nat.reduceAdd, eq_self, false_and, and_false, true_and, and_true, and_self, if_true, if_false, false_or, or_false, true_or, or_true, not_true_eq_false, not_false_eq_true, reduceIte] using D5.1, by simp only [kd_sI, ln_sI, hl_sI, gL_sI, gR_sI, kd_sL, ln_sL, hl_sL, gI_sL, gR_sL, kd_sR, ln_sR, hl_sR, gI_sR, gL_sR, kd_cpI, ln_cpI, hl_cpI, gL_cpI, gR_cpI, gI_cpI, gI_sI, gL_sL, gR_sR, St_sI, St_sL, St_cpI, Nat.reduceEqDiff, Nat.reduceAdd, eq_self, false_and, and_false, true_and, and_true, and_self, if_true, if_false, false_or, or_false, true_or, or_true, not_true_eq_false, not_false_eq_true, reduceIte]; exact D5.2.1, by simp only [kd_sI, ln_sI, hl_sI, gL_sI, gR_sI, kd_sL, ln_sL, hl_sL, gI_sL, gR_sL, kd_sR, ln_sR, hl_sR, gI_sR, gL_sR, kd_cpI, ln_cpI, hl_cpI, gL_cpI, gR_cpI, gI_cpI, gI_sI, gL_sL, gR_sR, St_sI, St_sL, St_cpI, Nat.reduceEqDiff, Nat.reduceAdd, eq_self, false_and, and_false, true_and, and_true, and_self, if_true, if_false, false_or, or_false, true_or, or_true, not_true_eq_false, not_false_eq_true, reduceIte]; exact D5.2.2.1, D5.2.2.2⟩
    have s6 := c_wordB (w := 1935767923) B5 (μ := 87) (by omega)
    obtain ⟨v7, s7⟩ := c_numberB (a := 0) (b := 99) B5 (μ := 87) (by omega)
    have CA := rc_A hS ho o0 s1 S1 o1 s2 s3 S3 o3 s4 S4 s5 s6 s7 B5.1 hμ
    rw [if_neg B5.nz] at CA
    have t5 : cal 230 [.ref 66, .long 1935767923, .int 0, .int 99] 8 (sI k3 79 C.length v3) = some (some (.int 0), sI k3 79 C.length v3) := by
      have w1 := m_wantB (w := 1935767923) D6 (μ := 6) (by omega)
      have w2 := m_numberB (a := 0) (b := 99) D6 (μ := 6) (by omega)
      rw [C_230 66 _ _ _ 8 _ (K_66 D6.1) (by decide) (by omega)]
      have hS := D6.1
      simp (disch := first | assumption | exact b2i_01 _ | decide | omega | (simp only [kd_sI, ln_sI, hl_sI, gL_sI, gR_sI, kd_sL, ln_sL, hl_sL, gI_sL, gR_sL, kd_sR, ln_sR, hl_sR, gI_sR, gL_sR, kd_cpI, ln_cpI, hl_cpI, gL_cpI, gR_cpI, gI_cpI, gI_sI, gL_sL, gR_sR, St_sI, St_sL, St_cpI, Nat.reduceEqDiff, Nat.reduceAdd, eq_self, false_and, and_false, true_and, and_true, and_self, if_true, if_false, false_or, or_false, true_or, or_true, not_true_eq_false, not_false_eq_true, reduceIte, K_66, F_66_0, F_66_10, F_66_11, F_66_12, F_66_13, F_66_14, F_66_15, F_66_16, F_66_17, F_66_18, F_66_25, F_66_26, F_66_27, F_66_28, F_66_29, F_66_30, F_66_31, F_66_32, F_66_33, F_66_34, F_66_35, F_66_36, F_66_37, F_66_38, F_66_39, F_66_60, F_66_61, F_66_62, F_66_63, F_66_66, F_66_68, F_66_69, F_66_71, F_66_72, F_66_73, F_66_74, F_66_77, F_66_78, F_66_79, F_66_80, F_66_81, F_66_84, F_66_85, F_66_86, F_66_87, hS, w1, w2, List.length_nil, List.length_cons, Nat.zero_le] <;> first | done | decide | omega | fail) | fail) only [B_230_0, e_aload_n_0, e_lload_n_1, e_call_2, psh_s, psh_n, Option.bind_some, e_iload_n_3, e_iload_4, e_call_3, R_230, kd_sI, ln_sI, hl_sI, gL_sI, gR_sI, kd_sL, ln_sL, hl_sL, gI_sL, gR_sL, kd_sR, ln_sR, hl_sR, gI_sR, gL_sR, kd_cpI, ln_cpI, hl_cpI, gL_cpI, gR_cpI, gI_cpI, gI_sI, gL_sL, gR_sR, St_sI, St_sL, St_cpI, Nat.reduceEqDiff, Nat.reduceAdd, eq_self, false_and, and_false, true_and, and_true, and_self, if_true, if_false, false_or, or_false, true_or, or_true, not_true_eq_false, not_false_eq_true, reduceIte, K_66, F_66_0, F_66_10, F_66_11, F_66_12, F_66_13, F_66_14, F_66_15, F_66_16, F_66_17, F_66_18, F_66_25, F_66_26, F_66_27, F_66_28, F_66_29, F_66_30, F_66_31, F_66_32, F_66_33, F_66_34, F_66_35, F_66_36, F_66_37, F_66_38, F_66_39, F_66_60, F_66_61, F_66_62, F_66_63, F_66_66, F_66_68, F_66_69, F_66_71, F_66_72, F_66_73, F_66_74, F_66_77, F_66_78, F_66_79, F_66_80, F_66_81, F_66_84, F_66_85, F_66_86, F_66_87, w1, w2, List.length_nil, List.length_cons, Nat.zero_le]
    rw [rc_M2 D6.1 hC t5 D6.1] at M1
    have D8 : BM cB pB (sI (sI (sI (sI (sI k3 79 C.length v3) 80 C.length 0) 81 C.length 0) 82 C.length 0) 83 C.length 0) := ⟨by simpa only [kd_sI, ln_sI, hl_sI, gL_sI, gR_sI, kd_sL, ln_sL, hl_sL, gI_sL, gR_sL, kd_sR, ln_sR, hl_sR, gI_sR, gL_sR, kd_cpI, ln_cpI, hl_cpI, gL_cpI, gR_cpI, gI_cpI, gI_sI, gL_sL, gR_sR, St_sI, St_sL, St_cpI, Nat.reduceEqDiff, Nat.reduceAdd, eq_self, false_and, and_false, true_and, and_true, and_self, if_true, if_false, false_or, or_false, true_or, or_true, not_true_eq_false, not_false_eq_true, reduceIte] using D6.1, by simp only [kd_sI, ln_sI, hl_sI, gL_sI, gR_sI, kd_sL, ln_sL, hl_sL, gI_sL, gR_sL, kd_sR, ln_sR, hl_sR, gI_sR, gL_sR, kd_cpI, ln_cpI, hl_cpI, gL_cpI, gR_cpI, gI_cpI, gI_sI, gL_sL, gR_sR, St_sI, St_sL, St_cpI, Nat.reduceEqDiff, Nat.reduceAdd, eq_self, false_and, and_false, true_and, and_true, and_self, if_true, if_false, false_or, or_false, true_or, or_true, not_true_eq_false, not_false_eq_true, reduceIte]; exact D5.2.1, by simp only [kd_sI, ln_sI, hl_sI, gL_sI, gR_sI, kd_sL, ln_sL, hl_sL, gI_sL, gR_sL, kd_sR, ln_sR, hl_sR, gI_sR, gL_sR, kd_cpI, ln_cpI, hl_cpI, gL_cpI, gR_cpI, gI_cpI, gI_sI, gL_sL, gR_sR, St_sI, St_sL, St_cpI, Nat.reduceEqDiff, Nat.reduceAdd, eq_self, false_and, and_false, true_and, and_true, and_self, if_true, if_false, false_or, or_false, true_or, or_true, not_true_eq_false, not_false_eq_true, reduceIte]; exact D5.2.2.1, D6.2.2.2⟩
    refine ⟨h5, _, CA, by rw [M1, rc_Mb7 D8]; exact rc_Mb D8, Or.inr ⟨cB, pB, B5, D8, F5, ((((G5.sI (by omega)).sI (by omega)).sI (by omega)).sI (by omega)).sI (by omega)⟩⟩
