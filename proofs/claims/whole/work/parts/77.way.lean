/-! the class's search -/
def BqC (a : Nat) (E : List Ent) (h : MH) : Prop := gI h a 3 = nI E.length ∧ (∀ (j : Nat) (e : Ent), E[j]? = some e → gI h (a + 1) j = nI e.1 ∧ gI h (a + 2) e.1 = nI e.2.2) ∧ ∀ s, s < 4096 → hsS E s = false → gI h (a + 2) s = -1
theorem hsS_app {E : List Ent} {q : Ent} {s : Nat} : hsS (E ++ [q]) s = (hsS E s || q.1 == s) := by
  unfold hsS
  rw [List.any_append]
  simp
theorem m1_ne {b : Nat} (hb : b ≤ 12) : ¬ nI b = -1 := fun q => by
  have : nI b < 0 := by rw [q]; decide
  exact nI_pos (by omega) this
theorem s_Se_note {o p a s f b : Nat} {L : LD} {E : List Ent} {h : MH} (hI : QI o p L h) (hO : SeO a h) (hQ : BqC a E h) (hE : ∀ (j : Nat) (e : Ent), E[j]? = some e → e.1 < 4096 ∧ e.2.2 ≤ 12) (hlen : hsS E s = false → E.length < 4096) (hl2 : E.length ≤ 4096) (hs4 : s < 4096) (hb : b ≤ 12) {μ : Nat} (hμ : 3 < μ) : ∃ h', cal 170 [.ref a, .int (nI s), .int (nI b)] μ h = some (none, h') ∧ SA o p L a h h' ∧ BqC a (cme E s f b) h' := by
  have hS := hI.1.1
  obtain ⟨q1, q2, q3, ⟨c1, c2, c3⟩, ⟨b1, b2, b3⟩, -⟩ := hO
  obtain ⟨w1, w2, w3⟩ := hQ
  have ha2 : 2 ≤ a := by omega
  have ha3 : 2 ≤ a + 2 := by omega
  have ha4 : 2 ≤ a + 1 := by omega
  have bs : inBd (nI s) 4096 = true := inBd_nI (by omega) (by omega)
  have ts := tc_nI (show s < 2147483648 by omega)
  have z1 := nI_nneg (show s < 2147483648 by omega)
  have z2 : ((4096 : Int32) ≤ nI s) = False := by rw [show (4096 : Int32) = nI 4096 from rfl, le_nI (by omega) (by omega)]; exact eq_false (by omega)
  have z3 := nI_nneg (show E.length < 2147483648 by omega)
  rw [C_170 a _ _ μ h q3 ha2 hμ]
  unfold cme
  cases d : hsS E s
  · rw [if_neg (by decide)]
    have hl := hlen d
    have v := w3 s hs4 d
    have z4 : ((4096 : Int32) ≤ nI E.length) = False := by rw [show (4096 : Int32) = nI 4096 from rfl, le_nI (by omega) (by omega)]; exact eq_false (by omega)
    have bn : inBd (nI E.length) 4096 = true := inBd_nI (by omega) (by omega)
    have tn := tc_nI (show E.length < 2147483648 by omega)
    have i1 := i16_nI hs4
    have i2 := i16_nI (s := b) (by omega)
    have n1 : (a = a + 2) = False := eq_false (by omega)
    have n2 : (a = a + 1) = False := eq_false (by omega)
    refine ⟨sI (sI (sI h (a + 2) s (nI b)) (a + 1) E.length (nI s)) a 3 (nI (E.length + 1)), ?_, (((SA.rf hI).sI q2 (by omega) (by omega)).sI q2 (by omega) (by omega)).sI q2 (by omega) (by omega), ?_, fun j e he => ?_, fun x hx hd => ?_⟩
    · simp (disch := first | assumption | exact b2i_01 _ | decide | omega | (simp only [kd_sI, ln_sI, hl_sI, gL_sI, gR_sI, kd_sL, ln_sL, hl_sL, gI_sL, gR_sL, kd_sR, ln_sR, hl_sR, gI_sR, gL_sR, kd_cpI, ln_cpI, hl_cpI, gL_cpI, gR_cpI, gI_cpI, gI_sI, gL_sL, gR_sR, St_sI, St_sL, St_cpI, Nat.reduceEqDiff, Nat.reduceAdd, eq_self, false_and, and_false, true_and, and_true, and_self, if_true, if_false, false_or, or_false, true_or, or_true, not_true_eq_false, not_false_eq_true, reduceIte, K_46, F_46_2, F_46_3, F_46_4, F_46_5, F_46_6, F_46_7, hS, q3, ha2, ha3, ha4, b1, b2, b3, c1, c2, c3, w1, v, z1, z2, z3, z4, bs, ts, bn, tn, i1, i2, n1, n2, nI_1] <;> first | done | decide | omega | fail) | fail) only [B_170_0, e_iload_n_1, e_if_lt, e_sipush_4096, e_ic_ge, e_aload_n_0, G_703, G_701, e_saload, e_iconst_m1, e_ic_ne, e_iload_n_2, e_i2s, e_sastore, G_700, e_dup_i, e_dup_a, e_iconst_1, e_iadd, P_703, e_gotow, T_170_67, B_170_67, R_170, kd_sI, ln_sI, hl_sI, gL_sI, gR_sI, kd_sL, ln_sL, hl_sL, gI_sL, gR_sL, kd_sR, ln_sR, hl_sR, gI_sR, gL_sR, kd_cpI, ln_cpI, hl_cpI, gL_cpI, gR_cpI, gI_cpI, gI_sI, gL_sL, gR_sR, St_sI, St_sL, St_cpI, Nat.reduceEqDiff, Nat.reduceAdd, eq_self, false_and, and_false, true_and, and_true, and_self, if_true, if_false, false_or, or_false, true_or, or_true, not_true_eq_false, not_false_eq_true, reduceIte, K_46, F_46_2, F_46_3, F_46_4, F_46_5, F_46_6, F_46_7, q3, ha2, ha3, ha4, b1, b2, b3, c1, c2, c3, w1, v, z1, z2, z3, z4, bs, ts, bn, tn, i1, i2, n1, n2, nI_1]
    · rw [gI_sI, if_pos ⟨rfl, rfl⟩, List.length_append]; rfl
    · have g1 : ∀ y, gI (sI (sI (sI h (a + 2) s (nI b)) (a + 1) E.length (nI s)) a 3 (nI (E.length + 1))) (a + 1) y = if y = E.length then nI s else gI h (a + 1) y := fun y => by
        rw [gI_sI, if_neg (by omega), gI_sI]
        by_cases c : y = E.length
        · rw [if_pos ⟨rfl, c⟩, if_pos c]
        · rw [if_neg (fun z => c z.2), if_neg c, gI_sI, if_neg (by omega)]
      have g2 : ∀ y, gI (sI (sI (sI h (a + 2) s (nI b)) (a + 1) E.length (nI s)) a 3 (nI (E.length + 1))) (a + 2) y = if y = s then nI b else gI h (a + 2) y := fun y => by
        rw [gI_sI, if_neg (by omega), gI_sI, if_neg (by omega), gI_sI]
        by_cases c : y = s
        · rw [if_pos ⟨rfl, c⟩, if_pos c]
        · rw [if_neg (fun z => c z.2), if_neg c]
      rw [g1, g2]
      rcases ent_app he with ⟨y1, rfl⟩ | ⟨y1, y2⟩
      · rw [if_pos y1, if_pos rfl]; exact ⟨rfl, rfl⟩
      · rw [if_neg (by omega), if_neg (fun y => by
          have := hsS_t.mpr ⟨j, e, y2, y⟩
          rw [d] at this
          cases this)]
        exact w2 j e y2
    · rw [hsS_app, Bool.or_eq_false_iff] at hd
      have ne : ¬ x = s := fun y => by
        have := hd.2
        rw [y] at this
        simp at this
      rw [gI_sI, if_neg (by omega), gI_sI, if_neg (by omega), gI_sI, if_neg (fun y => ne y.2)]
      exact w3 x hx hd.1
  · rw [if_pos rfl]
    obtain ⟨j, e, y1, y2⟩ := hsS_t.mp d
    have v := (w2 j e y1).2
    rw [y2] at v
    have nv : ¬ nI e.2.2 = -1 := m1_ne (hE j e y1).2
    refine ⟨h, ?_, SA.rf hI, w1, w2, w3⟩
    by_cases z4 : (4096 : Int32) ≤ nI E.length
    · simp (disch := first | assumption | exact b2i_01 _ | decide | omega | (simp only [kd_sI, ln_sI, hl_sI, gL_sI, gR_sI, kd_sL, ln_sL, hl_sL, gI_sL, gR_sL, kd_sR, ln_sR, hl_sR, gI_sR, gL_sR, kd_cpI, ln_cpI, hl_cpI, gL_cpI, gR_cpI, gI_cpI, gI_sI, gL_sL, gR_sR, St_sI, St_sL, St_cpI, Nat.reduceEqDiff, Nat.reduceAdd, eq_self, false_and, and_false, true_and, and_true, and_self, if_true, if_false, false_or, or_false, true_or, or_true, not_true_eq_false, not_false_eq_true, reduceIte, K_46, F_46_2, F_46_3, F_46_4, F_46_5, F_46_6, F_46_7, hS, q3, ha2, b1, b2, b3, w1, v, nv, z1, z2, z3, z4, bs, ts] <;> first | done | decide | omega | fail) | fail) only [B_170_0, e_iload_n_1, e_if_lt, e_sipush_4096, e_ic_ge, e_aload_n_0, G_703, G_701, e_saload, e_iconst_m1, e_ic_ne, e_iload_n_2, e_i2s, e_sastore, G_700, e_dup_i, e_dup_a, e_iconst_1, e_iadd, P_703, e_gotow, T_170_67, B_170_67, R_170, kd_sI, ln_sI, hl_sI, gL_sI, gR_sI, kd_sL, ln_sL, hl_sL, gI_sL, gR_sL, kd_sR, ln_sR, hl_sR, gI_sR, gL_sR, kd_cpI, ln_cpI, hl_cpI, gL_cpI, gR_cpI, gI_cpI, gI_sI, gL_sL, gR_sR, St_sI, St_sL, St_cpI, Nat.reduceEqDiff, Nat.reduceAdd, eq_self, false_and, and_false, true_and, and_true, and_self, if_true, if_false, false_or, or_false, true_or, or_true, not_true_eq_false, not_false_eq_true, reduceIte, K_46, F_46_2, F_46_3, F_46_4, F_46_5, F_46_6, F_46_7, q3, ha2, b1, b2, b3, w1, v, nv, z1, z2, z3, z4, bs, ts]
    · simp (disch := first | assumption | exact b2i_01 _ | decide | omega | (simp only [kd_sI, ln_sI, hl_sI, gL_sI, gR_sI, kd_sL, ln_sL, hl_sL, gI_sL, gR_sL, kd_sR, ln_sR, hl_sR, gI_sR, gL_sR, kd_cpI, ln_cpI, hl_cpI, gL_cpI, gR_cpI, gI_cpI, gI_sI, gL_sL, gR_sR, St_sI, St_sL, St_cpI, Nat.reduceEqDiff, Nat.reduceAdd, eq_self, false_and, and_false, true_and, and_true, and_self, if_true, if_false, false_or, or_false, true_or, or_true, not_true_eq_false, not_false_eq_true, reduceIte, K_46, F_46_2, F_46_3, F_46_4, F_46_5, F_46_6, F_46_7, hS, q3, ha2, b1, b2, b3, w1, v, nv, z1, z2, z3, z4, bs, ts] <;> first | done | decide | omega | fail) | fail) only [B_170_0, e_iload_n_1, e_if_lt, e_sipush_4096, e_ic_ge, e_aload_n_0, G_703, G_701, e_saload, e_iconst_m1, e_ic_ne, e_iload_n_2, e_i2s, e_sastore, G_700, e_dup_i, e_dup_a, e_iconst_1, e_iadd, P_703, e_gotow, T_170_67, B_170_67, R_170, kd_sI, ln_sI, hl_sI, gL_sI, gR_sI, kd_sL, ln_sL, hl_sL, gI_sL, gR_sL, kd_sR, ln_sR, hl_sR, gI_sR, gL_sR, kd_cpI, ln_cpI, hl_cpI, gL_cpI, gR_cpI, gI_cpI, gI_sI, gL_sL, gR_sR, St_sI, St_sL, St_cpI, Nat.reduceEqDiff, Nat.reduceAdd, eq_self, false_and, and_false, true_and, and_true, and_self, if_true, if_false, false_or, or_false, true_or, or_true, not_true_eq_false, not_false_eq_true, reduceIte, K_46, F_46_2, F_46_3, F_46_4, F_46_5, F_46_6, F_46_7, q3, ha2, b1, b2, b3, w1, v, nv, z1, z2, z3, z4, bs, ts]
/-- what can be done: a graft or a pruning -/
def okW (L : LD) (t : Nat) (oth : Int32) (s c : Nat) : Bool := tbt (dMem L t) c && (grf L c (nI s ||| oth) || prn L c (nI s ||| oth))
theorem xor_one {s c : Nat} (hs : s < 4096) (hc : c < 12) : nI s ^^^ one c = nI (s ^^^ 2 ^ c) := by
  apply tbt_ext
  intro i hi
  rw [tbt_xor, tbt_nI, tbt_nI, tbt_one (by omega) hi, decide_eq_true hi, Bool.true_and, Bool.true_and, Nat.testBit_xor, Nat.testBit_two_pow]
  by_cases q : c = i
  · rw [decide_eq_true q, decide_eq_true q.symm]
  · rw [decide_eq_false q, decide_eq_false (fun z => q z.symm)]
theorem lp_Se_spread {o p a t s0 f mm : Nat} {L : LD} {oth : Int32} {E0 : List Ent} {e0 : Ent} (hB : LawB L) (ht : t < 3) (hmm : dMem L t = nI mm) (hmm2 : mm < 2 ^ dC L) (w0 : Wl (dC L) s0 E0) (hf : E0[f]? = some e0) : ∀ m c h, c + m = 12 → QI o p L h → SeO a h → (∀ d, c ≤ dC L → d = c → BqC a (xpd (okW L t oth e0.1) e0.1 f d E0) h) → (dC L ≤ c → BqC a (xpd (okW L t oth e0.1) e0.1 f (dC L) E0) h) → ∃ h', rn 171 5 B_171_9 [some (.ref a), some (.ref o), some (.int (nI mm)), some (.int oth), some (.int (nI e0.1)), some (.int (nI e0.1 ||| oth)), some (.int (nI c))] [] h = some (none, h') ∧ SA o p L a h h' ∧ BqC a (xpd (okW L t oth e0.1) e0.1 f (dC L) E0) h' := by
  have hb0 := hB.1
  have h12 := pw12 hb0.2.2.1
  have hs0 : e0.1 < 2 ^ dC L := w0.2.1 f e0 hf
  intro m
  induction m with
  | zero =>
    intro c h hc hI hO h1 h2
    have hS := hI.1.1
    obtain rfl : c = 12 := by omega
    refine ⟨h, ?_, SA.rf hI, h2 (by omega)⟩
    rw [B_171_9]
    simp (disch := first | assumption | exact b2i_01 _ | decide | omega | (simp only [kd_sI, ln_sI, hl_sI, gL_sI, gR_sI, kd_sL, ln_sL, hl_sL, gI_sL, gR_sL, kd_sR, ln_sR, hl_sR, gI_sR, gL_sR, kd_cpI, ln_cpI, hl_cpI, gL_cpI, gR_cpI, gI_cpI, gI_sI, gL_sL, gR_sR, St_sI, St_sL, St_cpI, Nat.reduceEqDiff, Nat.reduceAdd, eq_self, false_and, and_false, true_and, and_true, and_self, if_true, if_false, false_or, or_false, true_or, or_true, not_true_eq_false, not_false_eq_true, reduceIte, K_46, F_46_2, F_46_3, F_46_4, F_46_5, F_46_6, F_46_7, hS, (eq_true (by simp (disch := omega) only [nI_lit, nI_add, lt_nI, le_nI, eq_nI] <;> omega) : ((12 : Int32) ≤ nI 12) = True)] <;> first | done | decide | omega | fail) | fail) only [B_171_0, e_iload_4, e_iload_n_3, e_ior, e_istore_5, clr_i, clr_l, clr_a, clr_n, e_iconst_0, e_istore_6, e_gotow, T_171_9, e_iload_6, e_bipush_12, e_ic_ge, e_iload_n_2, e_ishr, e_iconst_1, e_iand, e_if_eq, e_aload_n_1, e_iload_5, e_call_3, psh_s, psh_n, Option.bind_some, e_if_ne, T_171_47, B_171_47, e_aload_n_0, e_ishl, e_ixor, T_171_60, B_171_60, e_iinc_6_1, e_goto, T_171_66, B_171_66, R_171, kd_sI, ln_sI, hl_sI, gL_sI, gR_sI, kd_sL, ln_sL, hl_sL, gI_sL, gR_sL, kd_sR, ln_sR, hl_sR, gI_sR, gL_sR, kd_cpI, ln_cpI, hl_cpI, gL_cpI, gR_cpI, gI_cpI, gI_sI, gL_sL, gR_sR, St_sI, St_sL, St_cpI, Nat.reduceEqDiff, Nat.reduceAdd, eq_self, false_and, and_false, true_and, and_true, and_self, if_true, if_false, false_or, or_false, true_or, or_true, not_true_eq_false, not_false_eq_true, reduceIte, K_46, F_46_2, F_46_3, F_46_4, F_46_5, F_46_6, F_46_7, (eq_true (by simp (disch := omega) only [nI_lit, nI_add, lt_nI, le_nI, eq_nI] <;> omega) : ((12 : Int32) ≤ nI 12) = True)]
  | succ m ih =>
    intro c h hc hI hO h1 h2
    have hS := hI.1.1
    have e10 : ((1 : Int32) = 0) = False := by simp
    have bt := bit_tb (nI mm) (show c < 32 by omega)
    rw [← hmm] at bt
    unfold bit at bt
    rcases Nat.lt_or_ge c (dC L) with cc | cc
    · have hQ := h1 c (by omega) rfl
      have wE : Wl (dC L) s0 (xpd (okW L t oth e0.1) e0.1 f c E0) := Wl_xpd c E0 (by omega) w0 hf
      have hfE := (xpd_pfx (ok := okW L t oth e0.1) (s := e0.1) (f := f) c E0).get hf
      cases d1 : tbt (dMem L t) c
      · rw [d1, b2i_f, hmm] at bt
        have st : xpd (okW L t oth e0.1) e0.1 f (c + 1) E0 = xpd (okW L t oth e0.1) e0.1 f c E0 := if_neg (by unfold okW; rw [d1]; simp)
        obtain ⟨h3, g, r⟩ := ih (c + 1) h (by omega) hI hO (fun d _ e => by rw [e, st]; exact hQ) (fun q => by rw [show dC L = c + 1 by omega, st]; exact hQ)
        refine ⟨h3, ?_, r⟩
        rw [B_171_9]
        simp (disch := first | assumption | exact b2i_01 _ | decide | omega | (simp only [kd_sI, ln_sI, hl_sI, gL_sI, gR_sI, kd_sL, ln_sL, hl_sL, gI_sL, gR_sL, kd_sR, ln_sR, hl_sR, gI_sR, gL_sR, kd_cpI, ln_cpI, hl_cpI, gL_cpI, gR_cpI, gI_cpI, gI_sI, gL_sL, gR_sR, St_sI, St_sL, St_cpI, Nat.reduceEqDiff, Nat.reduceAdd, eq_self, false_and, and_false, true_and, and_true, and_self, if_true, if_false, false_or, or_false, true_or, or_true, not_true_eq_false, not_false_eq_true, reduceIte, K_46, F_46_2, F_46_3, F_46_4, F_46_5, F_46_6, F_46_7, hS, (eq_false (by simp (disch := omega) only [nI_lit, nI_add, lt_nI, le_nI, eq_nI] <;> omega) : ((12 : Int32) ≤ nI c) = False), bt, g, nI_1] <;> first | done | decide | omega | fail) | fail) only [B_171_0, e_iload_4, e_iload_n_3, e_ior, e_istore_5, clr_i, clr_l, clr_a, clr_n, e_iconst_0, e_istore_6, e_gotow, T_171_9, e_iload_6, e_bipush_12, e_ic_ge, e_iload_n_2, e_ishr, e_iconst_1, e_iand, e_if_eq, e_aload_n_1, e_iload_5, e_call_3, psh_s, psh_n, Option.bind_some, e_if_ne, T_171_47, B_171_47, e_aload_n_0, e_ishl, e_ixor, T_171_60, B_171_60, e_iinc_6_1, e_goto, T_171_66, B_171_66, R_171, kd_sI, ln_sI, hl_sI, gL_sI, gR_sI, kd_sL, ln_sL, hl_sL, gI_sL, gR_sL, kd_sR, ln_sR, hl_sR, gI_sR, gL_sR, kd_cpI, ln_cpI, hl_cpI, gL_cpI, gR_cpI, gI_cpI, gI_sI, gL_sL, gR_sR, St_sI, St_sL, St_cpI, Nat.reduceEqDiff, Nat.reduceAdd, eq_self, false_and, and_false, true_and, and_true, and_self, if_true, if_false, false_or, or_false, true_or, or_true, not_true_eq_false, not_false_eq_true, reduceIte, K_46, F_46_2, F_46_3, F_46_4, F_46_5, F_46_6, F_46_7, (eq_false (by simp (disch := omega) only [nI_lit, nI_add, lt_nI, le_nI, eq_nI] <;> omega) : ((12 : Int32) ≤ nI c) = False), bt, g, nI_1]
      · rw [d1, b2i_t, hmm] at bt
        have e1 := s_Or_canBeGrafted hI (μ := 5) (nI e0.1 ||| oth) cc (by omega)
        have e2 := s_Or_canBePruned hI (μ := 5) (nI e0.1 ||| oth) cc (by omega)
        cases d2 : (grf L c (nI e0.1 ||| oth) || prn L c (nI e0.1 ||| oth))
        · rw [Bool.or_eq_false_iff] at d2
          rw [d2.1] at e1
          rw [d2.2] at e2
          have st : xpd (okW L t oth e0.1) e0.1 f (c + 1) E0 = xpd (okW L t oth e0.1) e0.1 f c E0 := if_neg (by unfold okW; rw [d2.1, d2.2]; simp)
          obtain ⟨h3, g, r⟩ := ih (c + 1) h (by omega) hI hO (fun d _ e => by rw [e, st]; exact hQ) (fun q => by rw [show dC L = c + 1 by omega, st]; exact hQ)
          refine ⟨h3, ?_, r⟩
          rw [B_171_9]
          simp (disch := first | assumption | exact b2i_01 _ | decide | omega | (simp only [kd_sI, ln_sI, hl_sI, gL_sI, gR_sI, kd_sL, ln_sL, hl_sL, gI_sL, gR_sL, kd_sR, ln_sR, hl_sR, gI_sR, gL_sR, kd_cpI, ln_cpI, hl_cpI, gL_cpI, gR_cpI, gI_cpI, gI_sI, gL_sL, gR_sR, St_sI, St_sL, St_cpI, Nat.reduceEqDiff, Nat.reduceAdd, eq_self, false_and, and_false, true_and, and_true, and_self, if_true, if_false, false_or, or_false, true_or, or_true, not_true_eq_false, not_false_eq_true, reduceIte, K_46, F_46_2, F_46_3, F_46_4, F_46_5, F_46_6, F_46_7, hS, (eq_false (by simp (disch := omega) only [nI_lit, nI_add, lt_nI, le_nI, eq_nI] <;> omega) : ((12 : Int32) ≤ nI c) = False), bt, e1, e2, g, nI_1, b2i_f, b2i_t, e10, decide_true, decide_false, List.length_nil, List.length_cons, Nat.zero_le] <;> first | done | decide | omega | fail) | fail) only [B_171_0, e_iload_4, e_iload_n_3, e_ior, e_istore_5, clr_i, clr_l, clr_a, clr_n, e_iconst_0, e_istore_6, e_gotow, T_171_9, e_iload_6, e_bipush_12, e_ic_ge, e_iload_n_2, e_ishr, e_iconst_1, e_iand, e_if_eq, e_aload_n_1, e_iload_5, e_call_3, psh_s, psh_n, Option.bind_some, e_if_ne, T_171_47, B_171_47, e_aload_n_0, e_ishl, e_ixor, T_171_60, B_171_60, e_iinc_6_1, e_goto, T_171_66, B_171_66, R_171, kd_sI, ln_sI, hl_sI, gL_sI, gR_sI, kd_sL, ln_sL, hl_sL, gI_sL, gR_sL, kd_sR, ln_sR, hl_sR, gI_sR, gL_sR, kd_cpI, ln_cpI, hl_cpI, gL_cpI, gR_cpI, gI_cpI, gI_sI, gL_sL, gR_sR, St_sI, St_sL, St_cpI, Nat.reduceEqDiff, Nat.reduceAdd, eq_self, false_and, and_false, true_and, and_true, and_self, if_true, if_false, false_or, or_false, true_or, or_true, not_true_eq_false, not_false_eq_true, reduceIte, K_46, F_46_2, F_46_3, F_46_4, F_46_5, F_46_6, F_46_7, (eq_false (by simp (disch := omega) only [nI_lit, nI_add, lt_nI, le_nI, eq_nI] <;> omega) : ((12 : Int32) ≤ nI c) = False), bt, e1, e2, g, nI_1, b2i_f, b2i_t, e10, decide_true, decide_false, List.length_nil, List.length_cons, Nat.zero_le]
        · have st : xpd (okW L t oth e0.1) e0.1 f (c + 1) E0 = cme (xpd (okW L t oth e0.1) e0.1 f c E0) (e0.1 ^^^ 2 ^ c) f c := if_pos (by unfold okW; rw [d1, d2]; rfl)
          have wn := Wl_cme wE hfE cc
          have hx := xor_lt hs0 cc
          obtain ⟨h1', e3, sa3, q3⟩ := s_Se_note (s := e0.1 ^^^ 2 ^ c) (f := f) (b := c) hI hO hQ (fun j e he => by
            refine ⟨by have := wE.2.1 j e he; omega, ?_⟩
            rcases Nat.eq_zero_or_pos j with z | z
            · subst z
              rw [wE.1] at he
              obtain rfl := Option.some.inj he
              exact Nat.le_refl _
            · have := (wE.2.2.2 j e he z).2.1; omega) (fun dd => by
            have := wn.len
            unfold cme at this
            rw [dd, if_neg (by decide), List.length_append] at this
            simp at this
            omega) (by have := wE.len; omega) (by omega) (by omega) (μ := 5) (by omega)
          obtain ⟨h3, g, r1, r2⟩ := ih (c + 1) h1' (by omega) sa3.2.2 (sa3.seo hO) (fun d _ e => by rw [e, st]; exact q3) (fun q => by rw [show dC L = c + 1 by omega, st]; exact q3)
          have hS1 := sa3.2.2.1.1
          refine ⟨h3, ?_, sa3.trans r1, r2⟩
          rw [← xor_one (by omega) (by omega)] at e3
          unfold one at e3
          rw [B_171_9]
          cases d3 : grf L c (nI e0.1 ||| oth)
          · rw [d3, Bool.false_or] at d2
            rw [d3] at e1
            rw [d2] at e2
            simp (disch := first | assumption | exact b2i_01 _ | decide | omega | (simp only [kd_sI, ln_sI, hl_sI, gL_sI, gR_sI, kd_sL, ln_sL, hl_sL, gI_sL, gR_sL, kd_sR, ln_sR, hl_sR, gI_sR, gL_sR, kd_cpI, ln_cpI, hl_cpI, gL_cpI, gR_cpI, gI_cpI, gI_sI, gL_sL, gR_sR, St_sI, St_sL, St_cpI, Nat.reduceEqDiff, Nat.reduceAdd, eq_self, false_and, and_false, true_and, and_true, and_self, if_true, if_false, false_or, or_false, true_or, or_true, not_true_eq_false, not_false_eq_true, reduceIte, K_46, F_46_2, F_46_3, F_46_4, F_46_5, F_46_6, F_46_7, hS, hS1, (eq_false (by simp (disch := omega) only [nI_lit, nI_add, lt_nI, le_nI, eq_nI] <;> omega) : ((12 : Int32) ≤ nI c) = False), bt, e1, e2, e3, g, nI_1, b2i_f, b2i_t, e10, decide_true, decide_false, List.length_nil, List.length_cons, Nat.zero_le] <;> first | done | decide | omega | fail) | fail) only [B_171_0, e_iload_4, e_iload_n_3, e_ior, e_istore_5, clr_i, clr_l, clr_a, clr_n, e_iconst_0, e_istore_6, e_gotow, T_171_9, e_iload_6, e_bipush_12, e_ic_ge, e_iload_n_2, e_ishr, e_iconst_1, e_iand, e_if_eq, e_aload_n_1, e_iload_5, e_call_3, psh_s, psh_n, Option.bind_some, e_if_ne, T_171_47, B_171_47, e_aload_n_0, e_ishl, e_ixor, T_171_60, B_171_60, e_iinc_6_1, e_goto, T_171_66, B_171_66, R_171, kd_sI, ln_sI, hl_sI, gL_sI, gR_sI, kd_sL, ln_sL, hl_sL, gI_sL, gR_sL, kd_sR, ln_sR, hl_sR, gI_sR, gL_sR, kd_cpI, ln_cpI, hl_cpI, gL_cpI, gR_cpI, gI_cpI, gI_sI, gL_sL, gR_sR, St_sI, St_sL, St_cpI, Nat.reduceEqDiff, Nat.reduceAdd, eq_self, false_and, and_false, true_and, and_true, and_self, if_true, if_false, false_or, or_false, true_or, or_true, not_true_eq_false, not_false_eq_true, reduceIte, K_46, F_46_2, F_46_3, F_46_4, F_46_5, F_46_6, F_46_7, hS1, (eq_false (by simp (disch := omega) only [nI_lit, nI_add, lt_nI, le_nI, eq_nI] <;> omega) : ((12 : Int32) ≤ nI c) = False), bt, e1, e2, e3, g, nI_1, b2i_f, b2i_t, e10, decide_true, decide_false, List.length_nil, List.length_cons, Nat.zero_le]
          · rw [d3] at e1
            simp (disch := first | assumption | exact b2i_01 _ | decide | omega | (simp only [kd_sI, ln_sI, hl_sI, gL_sI, gR_sI, kd_sL, ln_sL, hl_sL, gI_sL, gR_sL, kd_sR, ln_sR, hl_sR, gI_sR, gL_sR, kd_cpI, ln_cpI, hl_cpI, gL_cpI, gR_cpI, gI_cpI, gI_sI, gL_sL, gR_sR, St_sI, St_sL, St_cpI, Nat.reduceEqDiff, Nat.reduceAdd, eq_self, false_and, and_false, true_and, and_true, and_self, if_true, if_false, false_or, or_false, true_or, or_true, not_true_eq_false, not_false_eq_true, reduceIte, K_46, F_46_2, F_46_3, F_46_4, F_46_5, F_46_6, F_46_7, hS, hS1, (eq_false (by simp (disch := omega) only [nI_lit, nI_add, lt_nI, le_nI, eq_nI] <;> omega) : ((12 : Int32) ≤ nI c) = False), bt, e1, e3, g, nI_1, b2i_f, b2i_t, e10, decide_true, decide_false, List.length_nil, List.length_cons, Nat.zero_le] <;> first | done | decide | omega | fail) | fail) only [B_171_0, e_iload_4, e_iload_n_3, e_ior, e_istore_5, clr_i, clr_l, clr_a, clr_n, e_iconst_0, e_istore_6, e_gotow, T_171_9, e_iload_6, e_bipush_12, e_ic_ge, e_iload_n_2, e_ishr, e_iconst_1, e_iand, e_if_eq, e_aload_n_1, e_iload_5, e_call_3, psh_s, psh_n, Option.bind_some, e_if_ne, T_171_47, B_171_47, e_aload_n_0, e_ishl, e_ixor, T_171_60, B_171_60, e_iinc_6_1, e_goto, T_171_66, B_171_66, R_171, kd_sI, ln_sI, hl_sI, gL_sI, gR_sI, kd_sL, ln_sL, hl_sL, gI_sL, gR_sL, kd_sR, ln_sR, hl_sR, gI_sR, gL_sR, kd_cpI, ln_cpI, hl_cpI, gL_cpI, gR_cpI, gI_cpI, gI_sI, gL_sL, gR_sR, St_sI, St_sL, St_cpI, Nat.reduceEqDiff, Nat.reduceAdd, eq_self, false_and, and_false, true_and, and_true, and_self, if_true, if_false, false_or, or_false, true_or, or_true, not_true_eq_false, not_false_eq_true, reduceIte, K_46, F_46_2, F_46_3, F_46_4, F_46_5, F_46_6, F_46_7, hS1, (eq_false (by simp (disch := omega) only [nI_lit, nI_add, lt_nI, le_nI, eq_nI] <;> omega) : ((12 : Int32) ≤ nI c) = False), bt, e1, e3, g, nI_1, b2i_f, b2i_t, e10, decide_true, decide_false, List.length_nil, List.length_cons, Nat.zero_le]
    · have d1 : tbt (dMem L t) c = false := by rw [hmm]; exact tbt_lt hmm2 cc
      rw [d1, b2i_f, hmm] at bt
      obtain ⟨h3, g, r⟩ := ih (c + 1) h (by omega) hI hO (fun d q _ => absurd q (by omega)) (fun _ => h2 cc)
      refine ⟨h3, ?_, r⟩
      rw [B_171_9]
      simp (disch := first | assumption | exact b2i_01 _ | decide | omega | (simp only [kd_sI, ln_sI, hl_sI, gL_sI, gR_sI, kd_sL, ln_sL, hl_sL, gI_sL, gR_sL, kd_sR, ln_sR, hl_sR, gI_sR, gL_sR, kd_cpI, ln_cpI, hl_cpI, gL_cpI, gR_cpI, gI_cpI, gI_sI, gL_sL, gR_sR, St_sI, St_sL, St_cpI, Nat.reduceEqDiff, Nat.reduceAdd, eq_self, false_and, and_false, true_and, and_true, and_self, if_true, if_false, false_or, or_false, true_or, or_true, not_true_eq_false, not_false_eq_true, reduceIte, K_46, F_46_2, F_46_3, F_46_4, F_46_5, F_46_6, F_46_7, hS, (eq_false (by simp (disch := omega) only [nI_lit, nI_add, lt_nI, le_nI, eq_nI] <;> omega) : ((12 : Int32) ≤ nI c) = False), bt, g, nI_1] <;> first | done | decide | omega | fail) | fail) only [B_171_0, e_iload_4, e_iload_n_3, e_ior, e_istore_5, clr_i, clr_l, clr_a, clr_n, e_iconst_0, e_istore_6, e_gotow, T_171_9, e_iload_6, e_bipush_12, e_ic_ge, e_iload_n_2, e_ishr, e_iconst_1, e_iand, e_if_eq, e_aload_n_1, e_iload_5, e_call_3, psh_s, psh_n, Option.bind_some, e_if_ne, T_171_47, B_171_47, e_aload_n_0, e_ishl, e_ixor, T_171_60, B_171_60, e_iinc_6_1, e_goto, T_171_66, B_171_66, R_171, kd_sI, ln_sI, hl_sI, gL_sI, gR_sI, kd_sL, ln_sL, hl_sL, gI_sL, gR_sL, kd_sR, ln_sR, hl_sR, gI_sR, gL_sR, kd_cpI, ln_cpI, hl_cpI, gL_cpI, gR_cpI, gI_cpI, gI_sI, gL_sL, gR_sR, St_sI, St_sL, St_cpI, Nat.reduceEqDiff, Nat.reduceAdd, eq_self, false_and, and_false, true_and, and_true, and_self, if_true, if_false, false_or, or_false, true_or, or_true, not_true_eq_false, not_false_eq_true, reduceIte, K_46, F_46_2, F_46_3, F_46_4, F_46_5, F_46_6, F_46_7, (eq_false (by simp (disch := omega) only [nI_lit, nI_add, lt_nI, le_nI, eq_nI] <;> omega) : ((12 : Int32) ≤ nI c) = False), bt, g, nI_1]
