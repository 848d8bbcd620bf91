theorem s_Se_mostLeft {o p a q en : Nat} {L : LD} {l : List Nat} {h : MH} (hI : QI o p L h) (hO : SeO a h) (hL : SeL a l h) (hq : q < 2 ^ dC L) (hl : l.length ≤ 4096) (hlt : ∀ x ∈ l, x < 2 ^ dC L) (hen : en ≤ 4097) {μ : Nat} (hμ : 5 < μ) : ∃ h' M', cal 198 [.ref a, .ref 46, .int (nI q), .int (nI en)] μ h = some (some (.int (nI M')), h') ∧ SA o p L a h h' ∧ SB a h h' ∧ M' ≤ 4096 ∧ (M' = (l.foldl (tst (row L q)) (fun _ => 0, 0)).2 ∨ (en ≤ M' ∧ en ≤ (l.foldl (tst (row L q)) (fun _ => 0, 0)).2)) := by
  have hS := hI.1.1
  have hO0 := hO
  obtain ⟨q1, q2, q3, -, -, d1, d2, d3⟩ := hO
  have ha2 : 2 ≤ a := by omega
  have sa0 : SA o p L a h (flS h (a + 3) 102 0) := (SA.rf hI).flS q2 (by omega) (by omega)
  have sb0 : SB a h (flS h (a + 3) 102 0) := fun x k c1 c2 => by rw [gI_flS, if_neg (by omega)]
  obtain ⟨h1, M1, g, sa1, sb1, hM, hM2⟩ := lp_Se_mostLeft hq hl hlt hen l.length 0 (flS h (a + 3) 102 0) (fun _ => 0) 0 none (by omega) sa0.2.2 (sa0.seo hO0) (sb0.sel q2 hL) (fun v hv => by rw [gI_flS, if_pos ⟨rfl, hv⟩]; rfl) (fun v => Nat.zero_le _) (Nat.zero_le _)
  refine ⟨h1, M1, ?_, sa0.trans sa1, sb0.trans sb1, hM, by rw [List.drop_zero] at hM2; exact hM2⟩
  have f := s_JA_fillI (v := 0) (μ := 5) d2 d3 (by omega) (show 2 ≤ a + 3 by omega) (by omega)
  rw [C_198 a _ _ _ μ h q3 ha2 hμ]
  simp (disch := first | assumption | exact b2i_01 _ | decide | omega | (simp only [kd_sI, ln_sI, hl_sI, gL_sI, gR_sI, kd_sL, ln_sL, hl_sL, gI_sL, gR_sL, kd_sR, ln_sR, hl_sR, gI_sR, gL_sR, kd_cpI, ln_cpI, hl_cpI, gL_cpI, gR_cpI, gI_cpI, gI_sI, gL_sL, gR_sR, St_sI, St_sL, St_cpI, Nat.reduceEqDiff, Nat.reduceAdd, eq_self, false_and, and_false, true_and, and_true, and_self, if_true, if_false, false_or, or_false, true_or, or_true, not_true_eq_false, not_false_eq_true, reduceIte, K_46, F_46_2, F_46_3, F_46_4, F_46_5, F_46_6, F_46_7, hS, q3, ha2, d1, f, List.length_nil, List.length_cons, Nat.zero_le] <;> first | done | decide | omega | fail) | fail) only [B_198_0, e_aload_n_0, G_702, e_iconst_0, e_call_2, psh_s, psh_n, Option.bind_some, e_istore_4, clr_i, clr_l, clr_a, clr_n, e_istore_5, e_gotow, T_198_14, e_iload_5, G_703, e_ic_ge, e_sipush_4096, e_iload_4, e_iload_n_3, e_aload_n_1, G_700, e_saload, e_iload_n_2, e_iand, e_bipush_m2, e_isub, e_istore_6, e_iload_6, e_if_lt, e_bipush_102, e_dup2, e_iaload, e_iconst_1, e_iadd, e_iastore, T_198_92, B_198_92, e_iinc_5_1, e_goto, T_198_98, B_198_98, R_198, kd_sI, ln_sI, hl_sI, gL_sI, gR_sI, kd_sL, ln_sL, hl_sL, gI_sL, gR_sL, kd_sR, ln_sR, hl_sR, gI_sR, gL_sR, kd_cpI, ln_cpI, hl_cpI, gL_cpI, gR_cpI, gI_cpI, gI_sI, gL_sL, gR_sR, St_sI, St_sL, St_cpI, Nat.reduceEqDiff, Nat.reduceAdd, eq_self, false_and, and_false, true_and, and_true, and_self, if_true, if_false, false_or, or_false, true_or, or_true, not_true_eq_false, not_false_eq_true, reduceIte, K_46, F_46_2, F_46_3, F_46_4, F_46_5, F_46_6, F_46_7, q3, ha2, d1, f, List.length_nil, List.length_cons, Nat.zero_le]
  exact g
/-! the next case that tells most -/
def own (L : LD) (l : List Nat) (q : Nat) : Nat := (l.foldl (tst (row L q)) (fun _ => 0, 0)).2
theorem own_le {L : LD} {l : List Nat} {q : Nat} : own L l q ≤ l.length := by
  have := tst_le (r := row L q) l (fun _ => 0, 0) 0 (fun _ => Nat.le_refl _) (Nat.le_refl _)
  unfold own
  omega
def aq (L : LD) (l : List Nat) (Q : Nat → Nat) : Nat → Int32 × Nat
  | 0 => (-1, 4097)
  | k + 1 => if own L l (Q k) < (aq L l Q k).2 then (nI k, own L l (Q k)) else aq L l Q k
theorem aq_t {L : LD} {l : List Nat} {Q : Nat → Nat} {k : Nat} (c : own L l (Q k) < (aq L l Q k).2) : aq L l Q (k + 1) = (nI k, own L l (Q k)) := if_pos c
theorem aq_s {L : LD} {l : List Nat} {Q : Nat → Nat} {k : Nat} (c : ¬ own L l (Q k) < (aq L l Q k).2) : aq L l Q (k + 1) = aq L l Q k := if_neg c
theorem aq_le {L : LD} {l : List Nat} {Q : Nat → Nat} : ∀ k j, j < k → (aq L l Q k).2 ≤ own L l (Q j)
  | k + 1, j, hj => by
    by_cases c : own L l (Q k) < (aq L l Q k).2
    · rw [aq_t c]
      by_cases d : j = k
      · rw [d]; exact Nat.le_refl _
      · have := aq_le (L := L) (l := l) (Q := Q) k j (by omega)
        show own L l (Q k) ≤ _
        omega
    · rw [aq_s c]
      by_cases d : j = k
      · rw [d]; omega
      · exact aq_le k j (by omega)
theorem aq_rng {L : LD} {l : List Nat} {Q : Nat → Nat} (hl : l.length ≤ 4096) : ∀ k, (aq L l Q k).2 ≤ 4097 ∧ (k = 0 ∨ ∃ j, j < k ∧ (aq L l Q k).1 = nI j)
  | 0 => ⟨Nat.le_refl _, Or.inl rfl⟩
  | k + 1 => by
    have ih := aq_rng (L := L) (Q := Q) hl k
    have ho := own_le (L := L) (l := l) (q := Q k)
    by_cases c : own L l (Q k) < (aq L l Q k).2
    · rw [aq_t c]
      exact ⟨by show own L l (Q k) ≤ _; omega, Or.inr ⟨k, by omega, rfl⟩⟩
    · rw [aq_s c]
      refine ⟨ih.1, Or.inr ?_⟩
      rcases ih.2 with z | ⟨j, hj, e⟩
      · subst z
        exfalso
        apply c
        show _ < 4097
        omega
      · exact ⟨j, by omega, e⟩
theorem lp_Se_question {o p a t : Nat} {L : LD} {l : List Nat} {Q : Nat → Nat} {mm : Int32} (hll : l.length ≤ 4096) (hlt : ∀ x ∈ l, x < 2 ^ dC L) (hQ : ∀ k, k < dN L → Q k < 2 ^ dC L ∧ dApp L k &&& mm = nI (Q k)) : ∀ m i h (l5 l6 : Option Value), i + m = dN L → QI o p L h → SeO a h → SeL a l h → gI h a 4 = (aq L l Q i).1 → gI h a 5 = nI (aq L l Q i).2 → (∀ q, q < 4096 → gI h (a + 2) q = -1 ∨ (¬ gI h (a + 2) q = -1 ∧ ∃ k, k < i ∧ Q k = q)) → ∃ h', rn 196 6 B_196_42 [some (.ref a), some (.ref 46), some (.int (nI t)), some (.int mm), some (.int (nI i)), l5, l6] [] h = some (none, h') ∧ SA o p L a h h' ∧ gI h' a 4 = (aq L l Q (dN L)).1 ∧ gI h' a 5 = nI (aq L l Q (dN L)).2 := by
  intro m
  induction m with
  | zero =>
    intro i h l5 l6 hi hI hO hL h4 h5 hN
    have hS := hI.1.1; have hB := hI.1.2.1; have hC := hI.1.2.2.1; have hM := hI.2.1; have hs := hI.2.2; have ho := hC.1.1; have hl := hC.1.2.1; have hl2 := hC.1.2.2.1; have hl3 := hC.1.2.2.2; have cT := hC.2.1.1; have cR := hC.2.1.2.1; have cC := hC.2.1.2.2.1; have cN := hC.2.1.2.2.2; have mT := hM.1.1; have mR := hM.1.2.1; have mC := hM.1.2.2.1; have mN := hM.1.2.2.2; have hb := hB.1; have e10 : ((1 : Int32) = 0) = False := by simp
    obtain rfl : i = dN L := by omega
    refine ⟨h, ?_, SA.rf hI, h4, h5⟩
    rw [B_196_42]
    simp (disch := first | assumption | exact b2i_01 _ | decide | omega | (simp only [kd_sI, ln_sI, hl_sI, gL_sI, gR_sI, kd_sL, ln_sL, hl_sL, gI_sL, gR_sL, kd_sR, ln_sR, hl_sR, gI_sR, gL_sR, kd_cpI, ln_cpI, hl_cpI, gL_cpI, gR_cpI, gI_cpI, gI_sI, gL_sL, gR_sR, St_sI, St_sL, St_cpI, Nat.reduceEqDiff, Nat.reduceAdd, eq_self, false_and, and_false, true_and, and_true, and_self, if_true, if_false, false_or, or_false, true_or, or_true, not_true_eq_false, not_false_eq_true, reduceIte, K_46, F_46_2, F_46_3, F_46_4, F_46_5, F_46_6, F_46_7, hS, cN, (eq_true (by simp (disch := omega) only [nI_lit, nI_add, lt_nI, le_nI, eq_nI] <;> omega) : (nI (dN L) ≤ nI (dN L)) = True)] <;> first | done | decide | omega | fail) | fail) only [B_196_0, e_aload_n_0, e_iconst_m1, P_704, P_705, G_703, e_if_ne, R_196, T_196_18, B_196_18, e_sipush_4097, e_aload_n_1, e_iload_n_2, e_call_2, psh_s, psh_n, Option.bind_some, e_istore_n_3, clr_i, clr_l, clr_a, clr_n, G_701, e_iconst_0, e_istore_4, e_gotow, T_196_42, e_iload_4, G_1, e_ic_ge, e_iload_n_3, e_iand, e_istore_5, e_iload_5, e_if_eq, G_705, e_call_4, e_istore_6, e_iload_6, T_196_104, B_196_104, e_iinc_4_1, e_goto, T_196_110, B_196_110, kd_sI, ln_sI, hl_sI, gL_sI, gR_sI, kd_sL, ln_sL, hl_sL, gI_sL, gR_sL, kd_sR, ln_sR, hl_sR, gI_sR, gL_sR, kd_cpI, ln_cpI, hl_cpI, gL_cpI, gR_cpI, gI_cpI, gI_sI, gL_sL, gR_sR, St_sI, St_sL, St_cpI, Nat.reduceEqDiff, Nat.reduceAdd, eq_self, false_and, and_false, true_and, and_true, and_self, if_true, if_false, false_or, or_false, true_or, or_true, not_true_eq_false, not_false_eq_true, reduceIte, K_46, F_46_2, F_46_3, F_46_4, F_46_5, F_46_6, F_46_7, cN, (eq_true (by simp (disch := omega) only [nI_lit, nI_add, lt_nI, le_nI, eq_nI] <;> omega) : (nI (dN L) ≤ nI (dN L)) = True)]
  | succ m ih =>
    intro i h l5 l6 hi hI hO hL h4 h5 hN
    have hO0 := hO
    have hS := hI.1.1; have hB := hI.1.2.1; have hC := hI.1.2.2.1; have hM := hI.2.1; have hs := hI.2.2; have ho := hC.1.1; have hl := hC.1.2.1; have hl2 := hC.1.2.2.1; have hl3 := hC.1.2.2.2; have cT := hC.2.1.1; have cR := hC.2.1.2.1; have cC := hC.2.1.2.2.1; have cN := hC.2.1.2.2.2; have mT := hM.1.1; have mR := hM.1.2.1; have mC := hM.1.2.2.1; have mN := hM.1.2.2.2; have hb := hB.1; have e10 : ((1 : Int32) = 0) = False := by simp
    have h12 := pw12 hb.2.2.1
    obtain ⟨q1, q2, q3, -, ⟨b1, b2, b3⟩, -⟩ := hO
    have ha2 : 2 ≤ a := by omega
    have ha3 : 2 ≤ a + 2 := by omega
    obtain ⟨z1, z2⟩ := hQ i (by omega)
    have rg := aq_rng (L := L) (Q := Q) hll i
    have e := s_Ca_applying (μ := 6) (k := i) hS (by omega) (by omega)
    rw [(hC.2.2.2.2.2.2.2.1 i (by omega)).1] at e
    have bq : inBd (nI (Q i)) 4096 = true := inBd_nI (by omega) (by omega)
    have tq := tc_nI (show Q i < 2147483648 by omega)
    have w1 := nI_nneg (show Q i < 2147483648 by omega)
    have w2 : ((4096 : Int32) ≤ nI (Q i)) = False := by rw [show (4096 : Int32) = nI 4096 from rfl, le_nI (by omega) (by omega)]; exact eq_false (by omega)
    rw [B_196_42]
    rcases hN (Q i) (by omega) with c | ⟨c, k', hk', ek'⟩
    · -- a new one
      have n1 : cal 197 [.ref a, .int (nI (Q i))] 6 h = some (some (.int 1), sI h (a + 2) (Q i) 0) := by
        have hμ : 3 < 6 := by omega
        have i0 : (0 : Int32).toInt16.toInt32 = 0 := by decide
        rw [C_197 a _ 6 h q3 ha2 hμ]
        simp (disch := first | assumption | exact b2i_01 _ | decide | omega | (simp only [kd_sI, ln_sI, hl_sI, gL_sI, gR_sI, kd_sL, ln_sL, hl_sL, gI_sL, gR_sL, kd_sR, ln_sR, hl_sR, gI_sR, gL_sR, kd_cpI, ln_cpI, hl_cpI, gL_cpI, gR_cpI, gI_cpI, gI_sI, gL_sL, gR_sR, St_sI, St_sL, St_cpI, Nat.reduceEqDiff, Nat.reduceAdd, eq_self, false_and, and_false, true_and, and_true, and_self, if_true, if_false, false_or, or_false, true_or, or_true, not_true_eq_false, not_false_eq_true, reduceIte, K_46, F_46_2, F_46_3, F_46_4, F_46_5, F_46_6, F_46_7, hS, q3, ha2, ha3, b1, b2, b3, bq, tq, w1, w2, c, i0] <;> first | done | decide | omega | fail) | fail) only [B_197_0, e_iload_n_1, e_if_lt, e_sipush_4096, e_ic_ge, e_aload_n_0, G_701, e_saload, e_iconst_m1, e_ic_eq, e_gotow, T_197_21, B_197_21, e_iconst_0, R_197, eq_self, true_or, or_true, b2i_or, T_197_23, B_197_23, e_sastore, e_iconst_1, kd_sI, ln_sI, hl_sI, gL_sI, gR_sI, kd_sL, ln_sL, hl_sL, gI_sL, gR_sL, kd_sR, ln_sR, hl_sR, gI_sR, gL_sR, kd_cpI, ln_cpI, hl_cpI, gL_cpI, gR_cpI, gI_cpI, gI_sI, gL_sL, gR_sR, St_sI, St_sL, St_cpI, Nat.reduceEqDiff, Nat.reduceAdd, eq_self, false_and, and_false, true_and, and_true, and_self, if_true, if_false, false_or, or_false, true_or, or_true, not_true_eq_false, not_false_eq_true, reduceIte, K_46, F_46_2, F_46_3, F_46_4, F_46_5, F_46_6, F_46_7, q3, ha2, ha3, b1, b2, b3, bq, tq, w1, w2, c, i0]
      obtain ⟨h1, eh1⟩ : ∃ h1, h1 = sI h (a + 2) (Q i) 0 := ⟨_, rfl⟩
      rw [← eh1] at n1
      have sa1 : SA o p L a h h1 := by rw [eh1]; exact (SA.rf hI).sI q2 (by omega) (by omega)
      have v3 : gI h1 a 3 = nI l.length := by rw [eh1, gI_sI, if_neg (by omega)]; exact hL.1
      have hL1 : SeL a l h1 := ⟨v3, fun i x w => by rw [eh1, gI_sI, if_neg (by omega)]; exact hL.2 i x w⟩
      have v4 : gI h1 a 4 = (aq L l Q i).1 := by rw [eh1, gI_sI, if_neg (by omega)]; exact h4
      have v5 : gI h1 a 5 = nI (aq L l Q i).2 := by rw [eh1, gI_sI, if_neg (by omega)]; exact h5
      obtain ⟨h2, M, e2, sa2, sb2, hM, hM2⟩ := s_Se_mostLeft sa1.2.2 (sa1.seo hO0) hL1 z1 hll hlt (show (aq L l Q i).2 ≤ 4097 from rg.1) (μ := 6) (by omega)
      have sa12 := sa1.trans sa2
      have hS1 := sa1.2.2.1.1
      have hS2 := sa2.2.2.1.1
      have hO2 := sa12.seo hO0
      have k1 : kd h1 a = 7 := by rw [sa1.kde]; exact q3
      have k2 : kd h2 a = 7 := by rw [sa12.kde]; exact q3
      have u5 : gI h2 a 5 = nI (aq L l Q i).2 := by rw [sb2 a 5 (by omega) (by omega)]; exact v5
      have u4 : gI h2 a 4 = (aq L l Q i).1 := by rw [sb2 a 4 (by omega) (by omega)]; exact v4
      have uN : ∀ q, gI h2 (a + 2) q = if q = Q i then 0 else gI h (a + 2) q := fun q => by
        rw [sb2 (a + 2) q (by omega) (by omega), eh1, gI_sI]
        by_cases d : q = Q i
        · rw [if_pos ⟨rfl, d⟩, if_pos d]
        · rw [if_neg (fun w => d w.2), if_neg d]
      have hown : (M = own L l (Q i)) ∨ ((aq L l Q i).2 ≤ M ∧ (aq L l Q i).2 ≤ own L l (Q i)) := hM2
      have le := le_nI (a := (aq L l Q i).2) (b := M) (by omega) (by omega)
      by_cases d : own L l (Q i) < (aq L l Q i).2
      · have eM : M = own L l (Q i) := by omega
        rw [eM] at e2 le
        have le' : (nI (aq L l Q i).2 ≤ nI (own L l (Q i))) = False := le.trans (eq_false (by omega))
        obtain ⟨h3, eh3⟩ : ∃ h3, h3 = sI (sI h2 a 4 (nI i)) a 5 (nI (own L l (Q i))) := ⟨_, rfl⟩
        have sa3 : SA o p L a h h3 := by rw [eh3]; exact (sa12.sI q2 (by omega) (by omega)).sI q2 (by omega) (by omega)
        obtain ⟨h4', g, sa4, g4, g5⟩ := ih (i + 1) h3 (some (.int (nI (Q i)))) (some (.int (nI (own L l (Q i))))) (by omega) sa3.2.2 (sa3.seo hO0) ⟨by rw [eh3, gI_sI, if_neg (by omega), gI_sI, if_neg (by omega)]; exact (sb2.sel q2 hL1).1, fun i x w => by rw [eh3, gI_sI, if_neg (by omega), gI_sI, if_neg (by omega)]; exact (sb2.sel q2 hL1).2 i x w⟩ (by rw [aq_t d, eh3, gI_sI, if_neg (by omega), gI_sI, if_pos ⟨rfl, rfl⟩]) (by rw [aq_t d, eh3, gI_sI, if_pos ⟨rfl, rfl⟩]) (fun q hq => by
          rw [eh3, gI_sI, if_neg (by omega), gI_sI, if_neg (by omega), uN]
          by_cases w : q = Q i
          · rw [if_pos w]; exact Or.inr ⟨by decide, i, by omega, w.symm⟩
          · rw [if_neg w]
            rcases hN q hq with y | ⟨y, k', y1, y2⟩
            · exact Or.inl y
            · exact Or.inr ⟨y, k', by omega, y2⟩)
        refine ⟨h4', ?_, sa3.trans sa4, g4, g5⟩
        rw [eh3] at g
        simp (disch := first | assumption | exact b2i_01 _ | decide | omega | (simp only [kd_sI, ln_sI, hl_sI, gL_sI, gR_sI, kd_sL, ln_sL, hl_sL, gI_sL, gR_sL, kd_sR, ln_sR, hl_sR, gI_sR, gL_sR, kd_cpI, ln_cpI, hl_cpI, gL_cpI, gR_cpI, gI_cpI, gI_sI, gL_sL, gR_sR, St_sI, St_sL, St_cpI, Nat.reduceEqDiff, Nat.reduceAdd, eq_self, false_and, and_false, true_and, and_true, and_self, if_true, if_false, false_or, or_false, true_or, or_true, not_true_eq_false, not_false_eq_true, reduceIte, K_46, F_46_2, F_46_3, F_46_4, F_46_5, F_46_6, F_46_7, hS, hS1, hS2, cN, (eq_false (by simp (disch := omega) only [nI_lit, nI_add, lt_nI, le_nI, eq_nI] <;> omega) : (nI (dN L) ≤ nI i) = False), e, z2, n1, q3, k1, k2, ha2, v5, u5, e2, le', g, nI_1, e10, List.length_nil, List.length_cons, Nat.zero_le] <;> first | done | decide | omega | fail) | fail) only [B_196_0, e_aload_n_0, e_iconst_m1, P_704, P_705, G_703, e_if_ne, R_196, T_196_18, B_196_18, e_sipush_4097, e_aload_n_1, e_iload_n_2, e_call_2, psh_s, psh_n, Option.bind_some, e_istore_n_3, clr_i, clr_l, clr_a, clr_n, G_701, e_iconst_0, e_istore_4, e_gotow, T_196_42, e_iload_4, G_1, e_ic_ge, e_iload_n_3, e_iand, e_istore_5, e_iload_5, e_if_eq, G_705, e_call_4, e_istore_6, e_iload_6, T_196_104, B_196_104, e_iinc_4_1, e_goto, T_196_110, B_196_110, kd_sI, ln_sI, hl_sI, gL_sI, gR_sI, kd_sL, ln_sL, hl_sL, gI_sL, gR_sL, kd_sR, ln_sR, hl_sR, gI_sR, gL_sR, kd_cpI, ln_cpI, hl_cpI, gL_cpI, gR_cpI, gI_cpI, gI_sI, gL_sL, gR_sR, St_sI, St_sL, St_cpI, Nat.reduceEqDiff, Nat.reduceAdd, eq_self, false_and, and_false, true_and, and_true, and_self, if_true, if_false, false_or, or_false, true_or, or_true, not_true_eq_false, not_false_eq_true, reduceIte, K_46, F_46_2, F_46_3, F_46_4, F_46_5, F_46_6, F_46_7, hS1, hS2, cN, (eq_false (by simp (disch := omega) only [nI_lit, nI_add, lt_nI, le_nI, eq_nI] <;> omega) : (nI (dN L) ≤ nI i) = False), e, z2, n1, q3, k1, k2, ha2, v5, u5, e2, le', g, nI_1, e10, List.length_nil, List.length_cons, Nat.zero_le]
      · have le' : (nI (aq L l Q i).2 ≤ nI M) = True := le.trans (eq_true (by omega))
        obtain ⟨h4', g, sa4, g4, g5⟩ := ih (i + 1) h2 (some (.int (nI (Q i)))) (some (.int (nI M))) (by omega) sa12.2.2 hO2 (sb2.sel q2 hL1) (by rw [aq_s d]; exact u4) (by rw [aq_s d]; exact u5) (fun q hq => by
          rw [uN]
          by_cases w : q = Q i
          · rw [if_pos w]; exact Or.inr ⟨by decide, i, by omega, w.symm⟩
          · rw [if_neg w]
            rcases hN q hq with y | ⟨y, k', y1, y2⟩
            · exact Or.inl y
            · exact Or.inr ⟨y, k', by omega, y2⟩)
        refine ⟨h4', ?_, sa12.trans sa4, g4, g5⟩
        simp (disch := first | assumption | exact b2i_01 _ | decide | omega | (simp only [kd_sI, ln_sI, hl_sI, gL_sI, gR_sI, kd_sL, ln_sL, hl_sL, gI_sL, gR_sL, kd_sR, ln_sR, hl_sR, gI_sR, gL_sR, kd_cpI, ln_cpI, hl_cpI, gL_cpI, gR_cpI, gI_cpI, gI_sI, gL_sL, gR_sR, St_sI, St_sL, St_cpI, Nat.reduceEqDiff, Nat.reduceAdd, eq_self, false_and, and_false, true_and, and_true, and_self, if_true, if_false, false_or, or_false, true_or, or_true, not_true_eq_false, not_false_eq_true, reduceIte, K_46, F_46_2, F_46_3, F_46_4, F_46_5, F_46_6, F_46_7, hS, hS1, hS2, cN, (eq_false (by simp (disch := omega) only [nI_lit, nI_add, lt_nI, le_nI, eq_nI] <;> omega) : (nI (dN L) ≤ nI i) = False), e, z2, n1, q3, k1, k2, ha2, v5, u5, e2, le', g, nI_1, e10, List.length_nil, List.length_cons, Nat.zero_le] <;> first | done | decide | omega | fail) | fail) only [B_196_0, e_aload_n_0, e_iconst_m1, P_704, P_705, G_703, e_if_ne, R_196, T_196_18, B_196_18, e_sipush_4097, e_aload_n_1, e_iload_n_2, e_call_2, psh_s, psh_n, Option.bind_some, e_istore_n_3, clr_i, clr_l, clr_a, clr_n, G_701, e_iconst_0, e_istore_4, e_gotow, T_196_42, e_iload_4, G_1, e_ic_ge, e_iload_n_3, e_iand, e_istore_5, e_iload_5, e_if_eq, G_705, e_call_4, e_istore_6, e_iload_6, T_196_104, B_196_104, e_iinc_4_1, e_goto, T_196_110, B_196_110, kd_sI, ln_sI, hl_sI, gL_sI, gR_sI, kd_sL, ln_sL, hl_sL, gI_sL, gR_sL, kd_sR, ln_sR, hl_sR, gI_sR, gL_sR, kd_cpI, ln_cpI, hl_cpI, gL_cpI, gR_cpI, gI_cpI, gI_sI, gL_sL, gR_sR, St_sI, St_sL, St_cpI, Nat.reduceEqDiff, Nat.reduceAdd, eq_self, false_and, and_false, true_and, and_true, and_self, if_true, if_false, false_or, or_false, true_or, or_true, not_true_eq_false, not_false_eq_true, reduceIte, K_46, F_46_2, F_46_3, F_46_4, F_46_5, F_46_6, F_46_7, hS1, hS2, cN, (eq_false (by simp (disch := omega) only [nI_lit, nI_add, lt_nI, le_nI, eq_nI] <;> omega) : (nI (dN L) ≤ nI i) = False), e, z2, n1, q3, k1, k2, ha2, v5, u5, e2, le', g, nI_1, e10, List.length_nil, List.length_cons, Nat.zero_le]
    · -- seen already
      have n1 : cal 197 [.ref a, .int (nI (Q i))] 6 h = some (some (.int 0), h) := by
        have hμ : 3 < 6 := by omega
        rw [C_197 a _ 6 h q3 ha2 hμ]
        simp (disch := first | assumption | exact b2i_01 _ | decide | omega | (simp only [kd_sI, ln_sI, hl_sI, gL_sI, gR_sI, kd_sL, ln_sL, hl_sL, gI_sL, gR_sL, kd_sR, ln_sR, hl_sR, gI_sR, gL_sR, kd_cpI, ln_cpI, hl_cpI, gL_cpI, gR_cpI, gI_cpI, gI_sI, gL_sL, gR_sR, St_sI, St_sL, St_cpI, Nat.reduceEqDiff, Nat.reduceAdd, eq_self, false_and, and_false, true_and, and_true, and_self, if_true, if_false, false_or, or_false, true_or, or_true, not_true_eq_false, not_false_eq_true, reduceIte, K_46, F_46_2, F_46_3, F_46_4, F_46_5, F_46_6, F_46_7, hS, q3, ha2, b1, b2, b3, bq, tq, w1, w2, c] <;> first | done | decide | omega | fail) | fail) only [B_197_0, e_iload_n_1, e_if_lt, e_sipush_4096, e_ic_ge, e_aload_n_0, G_701, e_saload, e_iconst_m1, e_ic_eq, e_gotow, T_197_21, B_197_21, e_iconst_0, R_197, eq_self, true_or, or_true, b2i_or, T_197_23, B_197_23, e_sastore, e_iconst_1, kd_sI, ln_sI, hl_sI, gL_sI, gR_sI, kd_sL, ln_sL, hl_sL, gI_sL, gR_sL, kd_sR, ln_sR, hl_sR, gI_sR, gL_sR, kd_cpI, ln_cpI, hl_cpI, gL_cpI, gR_cpI, gI_cpI, gI_sI, gL_sL, gR_sR, St_sI, St_sL, St_cpI, Nat.reduceEqDiff, Nat.reduceAdd, eq_self, false_and, and_false, true_and, and_true, and_self, if_true, if_false, false_or, or_false, true_or, or_true, not_true_eq_false, not_false_eq_true, reduceIte, K_46, F_46_2, F_46_3, F_46_4, F_46_5, F_46_6, F_46_7, q3, ha2, b1, b2, b3, bq, tq, w1, w2, c]
      have d : ¬ own L l (Q i) < (aq L l Q i).2 := by
        have := aq_le (L := L) (l := l) (Q := Q) i k' hk'
        rw [ek'] at this
        omega
      obtain ⟨h4', g, sa4, g4, g5⟩ := ih (i + 1) h (some (.int (nI (Q i)))) l6 (by omega) hI hO0 hL (by rw [aq_s d]; exact h4) (by rw [aq_s d]; exact h5) (fun q hq => by
        rcases hN q hq with y | ⟨y, k', y1, y2⟩
        · exact Or.inl y
        · exact Or.inr ⟨y, k', by omega, y2⟩)
      refine ⟨h4', ?_, sa4, g4, g5⟩
      simp (disch := first | assumption | exact b2i_01 _ | decide | omega | (simp only [kd_sI, ln_sI, hl_sI, gL_sI, gR_sI, kd_sL, ln_sL, hl_sL, gI_sL, gR_sL, kd_sR, ln_sR, hl_sR, gI_sR, gL_sR, kd_cpI, ln_cpI, hl_cpI, gL_cpI, gR_cpI, gI_cpI, gI_sI, gL_sL, gR_sR, St_sI, St_sL, St_cpI, Nat.reduceEqDiff, Nat.reduceAdd, eq_self, false_and, and_false, true_and, and_true, and_self, if_true, if_false, false_or, or_false, true_or, or_true, not_true_eq_false, not_false_eq_true, reduceIte, K_46, F_46_2, F_46_3, F_46_4, F_46_5, F_46_6, F_46_7, hS, cN, (eq_false (by simp (disch := omega) only [nI_lit, nI_add, lt_nI, le_nI, eq_nI] <;> omega) : (nI (dN L) ≤ nI i) = False), e, z2, n1, g, nI_1, List.length_nil, List.length_cons, Nat.zero_le] <;> first | done | decide | omega | fail) | fail) only [B_196_0, e_aload_n_0, e_iconst_m1, P_704, P_705, G_703, e_if_ne, R_196, T_196_18, B_196_18, e_sipush_4097, e_aload_n_1, e_iload_n_2, e_call_2, psh_s, psh_n, Option.bind_some, e_istore_n_3, clr_i, clr_l, clr_a, clr_n, G_701, e_iconst_0, e_istore_4, e_gotow, T_196_42, e_iload_4, G_1, e_ic_ge, e_iload_n_3, e_iand, e_istore_5, e_iload_5, e_if_eq, G_705, e_call_4, e_istore_6, e_iload_6, T_196_104, B_196_104, e_iinc_4_1, e_goto, T_196_110, B_196_110, kd_sI, ln_sI, hl_sI, gL_sI, gR_sI, kd_sL, ln_sL, hl_sL, gI_sL, gR_sL, kd_sR, ln_sR, hl_sR, gI_sR, gL_sR, kd_cpI, ln_cpI, hl_cpI, gL_cpI, gR_cpI, gI_cpI, gI_sI, gL_sL, gR_sR, St_sI, St_sL, St_cpI, Nat.reduceEqDiff, Nat.reduceAdd, eq_self, false_and, and_false, true_and, and_true, and_self, if_true, if_false, false_or, or_false, true_or, or_true, not_true_eq_false, not_false_eq_true, reduceIte, K_46, F_46_2, F_46_3, F_46_4, F_46_5, F_46_6, F_46_7, cN, (eq_false (by simp (disch := omega) only [nI_lit, nI_add, lt_nI, le_nI, eq_nI] <;> omega) : (nI (dN L) ≤ nI i) = False), e, z2, n1, g, nI_1, List.length_nil, List.length_cons, Nat.zero_le]
