/-! room for a long way -/
/-- what a run leaves of all cells that were there, but for what lies there -/
def LW (b : Nat) (h h' : MH) : Prop := (∀ x, x < h.1.length → kd h' x = kd h x ∧ ln h' x = ln h x) ∧ h.1.length ≤ h'.1.length ∧ (∀ x k, x < h.1.length → ¬ x = 64 → ¬ x = b → gI h' x k = gI h x k) ∧ ∀ x k, x < h.1.length → ¬ x = 64 → ¬ x = b → gL h' x k = gL h x k ∧ gR h' x k = gR h x k
theorem Rom.nat {h : MH} (hX : Rom h) : ∃ L : Nat, L ≤ 3072 ∧ ∃ x y : Nat, (gR h 2 9 = .null ∧ x = 0 ∨ ¬ gR h 2 9 = .null ∧ x = 1) ∧ (gR h 64 0 = .ref 65 ∧ y = 0 ∨ y = 1 ∧ ∃ a : Nat, gR h 64 0 = .ref a ∧ ln h a = 4096) ∧ h.1.length ≤ 112 + 4 * x + y ∧ szH h ≤ 54700 + L + 9000 * x + 4096 * y := hX
def LyW (h : MH) : Prop := ∃ b : Nat, gR h 64 0 = .ref b ∧ (b = 65 ∨ 112 ≤ b) ∧ kd h b = 20 ∧ (ln h b = 40 ∨ ln h b = 4096)
theorem s_Ly_makeRoom {n : Nat} {h : MH} (hS : St h) (hY : LyW h) (hR : Rom h) (hn : n ≤ 4096) {μ : Nat} (hμ : 4 < μ) : ∃ (h' : MH) (b : Nat), cal 174 [.ref 64, .int (nI n)] μ h = some (none, h') ∧ St h' ∧ Rom h' ∧ gR h' 64 0 = .ref b ∧ (b = 65 ∨ 112 ≤ b) ∧ kd h' b = 20 ∧ (ln h' b = 40 ∨ ln h' b = 4096) ∧ n ≤ ln h' b ∧ gI h' 64 1 = nI n ∧ LW b h h' := by
  obtain ⟨b, z1, z2, z3, z4⟩ := hY
  have len := St_len hS
  have ka : 20 ≤ kd h b ∧ kd h b ≤ 24 := by omega
  have hb : b < h.1.length := kdlt (by omega)
  have le1 := le_nI (a := n) (b := ln h b) (by omega) (by omega)
  have mx : ∀ h0 : MH, cal 4 [.int 0, .int (nI n)] 4 h0 = some (some (.int (nI n)), h0) := fun h0 => by
    rw [s_JM_max (by omega)]
    by_cases c : n = 0
    · subst c; rfl
    · rw [if_pos (by rw [show (0 : Int32) = nI 0 from rfl, lt_nI (by omega) (by omega)]; omega)]
  by_cases c : n ≤ ln h b
  · have le1' : (nI n ≤ nI (ln h b)) = True := le1.trans (eq_true c)
    have mn : cal 125 [.int (nI n), .int (nI (ln h b))] 4 h = some (some (.int (nI n)), h) := by
      rw [s_JM_min (by omega), if_neg (by rw [lt_nI (by omega) (by omega)]; omega)]
    have mx0 := mx h
    have s1 : Sm h (sI h 64 1 (nI n)) [(64, some 1)] := (Sm.rf h _).sI rfl
    refine ⟨sI h 64 1 (nI n), b, ?_, s1.St hS (by decide +kernel), hR.sm s1 (by decide +kernel), z1, z2, z3, z4, c, by rw [gI_sI, if_pos ⟨rfl, rfl⟩], fun x _ => ⟨rfl, rfl⟩, Nat.le_refl _, fun x k _ h1 _ => by rw [gI_sI, if_neg (by omega)], fun x k _ _ _ => ⟨rfl, rfl⟩⟩
    rw [C_174 64 _ μ _ (K_64 hS) (by decide) hμ]
    simp (disch := first | assumption | exact b2i_01 _ | decide | omega | (simp only [kd_sI, ln_sI, hl_sI, gL_sI, gR_sI, kd_sL, ln_sL, hl_sL, gI_sL, gR_sL, kd_sR, ln_sR, hl_sR, gI_sR, gL_sR, kd_cpI, ln_cpI, hl_cpI, gL_cpI, gR_cpI, gI_cpI, gI_sI, gL_sL, gR_sR, St_sI, St_sL, St_cpI, Nat.reduceEqDiff, Nat.reduceAdd, eq_self, false_and, and_false, true_and, and_true, and_self, if_true, if_false, false_or, or_false, true_or, or_true, not_true_eq_false, not_false_eq_true, reduceIte, K_64, hS, z1, ka, le1', mn, mx0, List.length_nil, List.length_cons, Nat.zero_le] <;> first | done | decide | omega | fail) | fail) only [B_174_0, e_iload_n_1, e_aload_n_0, G_300, e_alen, e_ic_le, e_sipush_4096, e_newarr_int, P_300, e_gotow, T_174_18, B_174_18, e_iconst_0, e_call_2, psh_s, psh_n, Option.bind_some, P_301, R_174, kd_sI, ln_sI, hl_sI, gL_sI, gR_sI, kd_sL, ln_sL, hl_sL, gI_sL, gR_sL, kd_sR, ln_sR, hl_sR, gI_sR, gL_sR, kd_cpI, ln_cpI, hl_cpI, gL_cpI, gR_cpI, gI_cpI, gI_sI, gL_sL, gR_sR, St_sI, St_sL, St_cpI, Nat.reduceEqDiff, Nat.reduceAdd, eq_self, false_and, and_false, true_and, and_true, and_self, if_true, if_false, false_or, or_false, true_or, or_true, not_true_eq_false, not_false_eq_true, reduceIte, K_64, z1, ka, le1', mn, mx0, List.length_nil, List.length_cons, Nat.zero_le]
  · have le1' : (nI n ≤ nI (ln h b)) = False := le1.trans (eq_false c)
    have l40 : ln h b = 40 := by omega
    have t1 : (4096 : Int32).toNatClampNeg = 4096 := by decide
    have u1 : ((4096 : Int32) < 0) = False := by decide
    obtain ⟨c', ec⟩ : ∃ c', h.1.length = c' := ⟨_, rfl⟩
    obtain ⟨h2, eh2⟩ : ∃ h2, h2 = sR (nC h 20 4096) 64 0 (.ref c') := ⟨_, rfl⟩
    have kk : ∀ x, kd h2 x = if x = c' then 20 else kd h x := fun x => by rw [eh2, kd_sR, kdN, ec]
    have ll' : ∀ x, ln h2 x = if x = c' then 4096 else ln h x := fun x => by rw [eh2, ln_sR, lnN, ec]
    have k64 : kd (nC h 20 4096) 64 = 3 := by rw [kdN, ec, if_neg (by omega)]; exact K_64 hS
    have k64' : kd h2 64 = 3 := by rw [kk, if_neg (by omega)]; exact K_64 hS
    have r64 : gR h2 64 0 = .ref c' := by rw [eh2, gR_sR, if_pos ⟨rfl, rfl⟩]
    have kc : 20 ≤ kd h2 c' ∧ kd h2 c' ≤ 24 := by rw [kk, if_pos rfl]; omega
    have lc : ln h2 c' = 4096 := by rw [ll', if_pos rfl]
    have mn : cal 125 [.int (nI n), .int (nI 4096)] 4 h2 = some (some (.int (nI n)), h2) := by
      rw [s_JM_min (by omega), if_neg (by rw [lt_nI (by omega) (by omega)]; omega)]
    have mx2 := mx h2
    have low : ∀ x k, x < c' → gI h2 x k = gI h x k ∧ gL h2 x k = gL h x k ∧ (¬ (x = 64 ∧ k = 0) → gR h2 x k = gR h x k) := fun x k hx => by
      refine ⟨?_, ?_, fun nq => ?_⟩
      · rw [eh2, gI_sR, gI_nC, ec, if_neg (by omega)]
      · rw [eh2, gL_sR, gL_nC, ec, if_neg (by omega)]
      · rw [eh2, gR_sR, if_neg nq, gR_nC, ec, if_neg (by omega)]
    have shp2 : h2.1 = h.1 ++ [(20, 4096)] := by rw [eh2]; rfl
    have hS2 : St h2 := St_ext hS ⟨_, shp2⟩ (fun q hq => by
      have z := List.all_eq_true.mp rtb_lt q hq
      simp only [Bool.and_eq_true, decide_eq_true_eq, Bool.not_eq_true', Bool.and_eq_false_iff, beq_eq_false_iff_ne] at z
      exact (low q.1 q.2.1 (by omega)).2.2 (fun w => by omega))
    have s3 : Sm h2 (sI h2 64 1 (nI n)) [(64, some 1)] := (Sm.rf h2 _).sI rfl
    have hR2 : Rom h2 := by
      obtain ⟨LL, hL, x, y, b1, b2, b3, b4⟩ := hR.nat
      have y0 : y = 0 := by
        rcases b2 with q | ⟨-, b', q1, q2⟩
        · exact q.2
        · exfalso
          rw [z1] at q1
          obtain rfl : b = b' := by injection q1
          omega
      refine ⟨LL, hL, x, 1, by rw [(low 2 9 (by omega)).2.2 (by omega)]; exact b1, Or.inr ⟨rfl, c', r64, lc⟩, ?_, ?_⟩
      · rw [shp2, List.length_append]
        have : ([(20, 4096)] : List (Nat × Nat)).length = 1 := rfl
        omega
      · unfold szH at b4 ⊢
        rw [shp2, List.map_append, List.sum_append]
        have : (([(20, 4096)] : List (Nat × Nat)).map (fun q => q.2)).sum = 4096 := rfl
        omega
    refine ⟨sI h2 64 1 (nI n), c', ?_, s3.St hS2 (by decide +kernel), hR2.sm s3 (by decide +kernel), r64, Or.inr (by omega), by show kd h2 c' = 20; rw [kk, if_pos rfl], Or.inr lc, by show n ≤ ln h2 c'; omega, by rw [gI_sI, if_pos ⟨rfl, rfl⟩], fun x hx => ⟨by show kd h2 x = _; rw [kk, if_neg (by omega)], by show ln h2 x = _; rw [ll', if_neg (by omega)]⟩, by show h.1.length ≤ h2.1.length; rw [shp2, List.length_append]; omega, fun x k hx h1 _ => by rw [gI_sI, if_neg (by omega)]; exact (low x k (by omega)).1, fun x k hx h1 _ => ⟨(low x k (by omega)).2.1, (low x k (by omega)).2.2 (by omega)⟩⟩
    rw [C_174 64 _ μ h (K_64 hS) (by decide) hμ, B_174_0]
    have k0 := K_64 hS
    simp (disch := first | assumption | decide | omega) only [e_iload_n_1, e_aload_n_0, G_300, k0, z1, e_alen, e_ic_le, le1', if_false, e_sipush_4096, e_newarr_int, u1, t1, not_false_eq_true, ec, P_300, k64]
    rw [← eh2]
    simp (disch := first | assumption | decide | omega | (simp only [List.length_cons, List.length_nil] <;> omega)) only [e_gotow, T_174_18, B_174_18, e_aload_n_0, e_iconst_0, e_iload_n_1, G_300, k64', r64, e_alen, lc, e_call_2, mn, mx2, Option.bind_some, psh_s, P_301, R_174]
