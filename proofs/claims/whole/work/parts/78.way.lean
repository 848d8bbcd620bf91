theorem s_Se_spread {o p a t s0 f mm : Nat} {L : LD} {oth : Int32} {E0 : List Ent} {e0 : Ent} {h : MH} (hI : QI o p L h) (hO : SeO a h) (hQ : BqC a E0 h) (ht : t < 3) (hmm : dMem L t = nI mm) (hmm2 : mm < 2 ^ dC L) (w0 : Wl (dC L) s0 E0) (hf : E0[f]? = some e0) {μ : Nat} (hμ : 5 < μ) : ∃ h', cal 171 [.ref a, .ref o, .int (nI mm), .int oth, .int (nI e0.1)] μ h = some (none, h') ∧ SA o p L a h h' ∧ BqC a (xpd (okW L t oth e0.1) e0.1 f (dC L) E0) h' := by
  have hS := hI.1.1
  have hB := hI.1.2.1
  obtain ⟨h1, e1, sa1, q1⟩ := lp_Se_spread (oth := oth) hB ht hmm hmm2 w0 hf 12 0 h (by omega) hI hO (fun d _ e => by rw [e]; exact hQ) (fun q => by rw [show dC L = 0 by omega]; exact hQ)
  refine ⟨h1, ?_, sa1, q1⟩
  rw [C_171 a _ _ _ _ μ h hO.2.2.1 (by have := hO.2.1; omega) hμ]
  simp (disch := first | assumption | exact b2i_01 _ | decide | omega | (simp only [kd_sI, ln_sI, hl_sI, gL_sI, gR_sI, kd_sL, ln_sL, hl_sL, gI_sL, gR_sL, kd_sR, ln_sR, hl_sR, gI_sR, gL_sR, kd_cpI, ln_cpI, hl_cpI, gL_cpI, gR_cpI, gI_cpI, gI_sI, gL_sL, gR_sR, St_sI, St_sL, St_cpI, Nat.reduceEqDiff, Nat.reduceAdd, eq_self, false_and, and_false, true_and, and_true, and_self, if_true, if_false, false_or, or_false, true_or, or_true, not_true_eq_false, not_false_eq_true, reduceIte, K_46, F_46_2, F_46_3, F_46_4, F_46_5, F_46_6, F_46_7, hS] <;> first | done | decide | omega | fail) | fail) only [B_171_0, e_iload_4, e_iload_n_3, e_ior, e_istore_5, clr_i, clr_l, clr_a, clr_n, e_iconst_0, e_istore_6, e_gotow, T_171_9, e_iload_6, e_bipush_12, e_ic_ge, e_iload_n_2, e_ishr, e_iconst_1, e_iand, e_if_eq, e_aload_n_1, e_iload_5, e_call_3, psh_s, psh_n, Option.bind_some, e_if_ne, T_171_47, B_171_47, e_aload_n_0, e_ishl, e_ixor, T_171_60, B_171_60, e_iinc_6_1, e_goto, T_171_66, B_171_66, R_171, kd_sI, ln_sI, hl_sI, gL_sI, gR_sI, kd_sL, ln_sL, hl_sL, gI_sL, gR_sL, kd_sR, ln_sR, hl_sR, gI_sR, gL_sR, kd_cpI, ln_cpI, hl_cpI, gL_cpI, gR_cpI, gI_cpI, gI_sI, gL_sL, gR_sR, St_sI, St_sL, St_cpI, Nat.reduceEqDiff, Nat.reduceAdd, eq_self, false_and, and_false, true_and, and_true, and_self, if_true, if_false, false_or, or_false, true_or, or_true, not_true_eq_false, not_false_eq_true, reduceIte, K_46, F_46_2, F_46_3, F_46_4, F_46_5, F_46_6, F_46_7]
  exact e1
theorem BqC.nt {a goal : Nat} {E : List Ent} {h : MH} (q : BqC a E h) (hE : ∀ (j : Nat) (e : Ent), E[j]? = some e → e.2.2 ≤ 12) (hg : goal < 4096) : (gI h (a + 2) goal = -1) = (hsS E goal = false) := by
  apply propext
  constructor
  · intro v
    cases d : hsS E goal
    · rfl
    · exfalso
      obtain ⟨j, e, y1, y2⟩ := hsS_t.mp d
      have := (q.2.1 j e y1).2
      rw [y2, v] at this
      exact m1_ne (hE j e y1) this.symm
  · exact q.2.2 goal hg
theorem Wl.b12 {C s0 : Nat} {E : List Ent} (w : Wl C s0 E) (hC : C ≤ 12) : ∀ (j : Nat) (e : Ent), E[j]? = some e → e.2.2 ≤ 12 := fun j e he => by
  rcases Nat.eq_zero_or_pos j with z | z
  · subst z
    rw [w.1] at he
    obtain rfl := Option.some.inj he
    exact Nat.le_refl _
  · have := (w.2.2.2 j e he z).2.1; omega
theorem lp_Se_way {o p a t s0 mm goal : Nat} {L : LD} {oth inn : Int32} (hB : LawB L) (ht : t < 3) (hmm : dMem L t = nI mm) (hmm2 : mm < 2 ^ dC L) (h0 : s0 < 2 ^ dC L) (hg : goal < 4096) : ∀ m i h, i + m = 4097 → QI o p L h → SeO a h → BqC a (bfs (okW L t oth) (dC L) s0 i) h → (∀ k, k < i → hsS (bfs (okW L t oth) (dC L) s0 k) goal = false ∧ k < (bfs (okW L t oth) (dC L) s0 k).length) → ∃ h' i', rn 168 6 B_168_53 [some (.ref a), some (.ref o), some (.int (nI t)), some (.int inn), some (.int (nI goal)), some (.ref 64), some (.int (nI mm)), some (.int oth), some (.int (nI i))] [] h = rn 168 6 B_168_103 [some (.ref a), some (.ref o), some (.int (nI t)), some (.int inn), some (.int (nI goal)), some (.ref 64), some (.int (nI mm)), some (.int oth), some (.int (nI i'))] [] h' ∧ SA o p L a h h' ∧ BqC a (bfs (okW L t oth) (dC L) s0 i') h' ∧ (∀ k, k < i' → hsS (bfs (okW L t oth) (dC L) s0 k) goal = false ∧ k < (bfs (okW L t oth) (dC L) s0 k).length) ∧ (hsS (bfs (okW L t oth) (dC L) s0 i') goal = true ∨ (bfs (okW L t oth) (dC L) s0 i').length ≤ i') := by
  have hb0 := hB.1
  have h12 := pw12 hb0.2.2.1
  have wl : ∀ k, Wl (dC L) s0 (bfs (okW L t oth) (dC L) s0 k) := fun k => Wl_bf h0 k
  intro m
  induction m with
  | zero =>
    intro i h hi hI hO hQ hk
    exfalso
    have := (hk 4096 (by omega)).2
    have := (wl 4096).len
    omega
  | succ m ih =>
    intro i h hi hI hO hQ hk
    have hS := hI.1.1
    have hO0 := hO
    obtain ⟨q1, q2, q3, ⟨c1, c2, c3⟩, ⟨b1, b2, b3⟩, -⟩ := hO
    have ha2 : 2 ≤ a := by omega
    have ln := (wl i).len
    have nt := hQ.nt ((wl i).b12 hb0.2.2.1) hg
    have v3 := hQ.1
    have bg : inBd (nI goal) 4096 = true := inBd_nI (by omega) (by omega)
    have tg := tc_nI (show goal < 2147483648 by omega)
    have le1 := le_nI (a := (bfs (okW L t oth) (dC L) s0 i).length) (b := i) (by omega) (by omega)
    rw [B_168_53]
    rcases Nat.lt_or_ge i (bfs (okW L t oth) (dC L) s0 i).length with c | c
    · have le1' : (nI (bfs (okW L t oth) (dC L) s0 i).length ≤ nI i) = False := le1.trans (eq_false (by omega))
      have le2 : ((4096 : Int32) ≤ nI i) = False := by rw [show (4096 : Int32) = nI 4096 from rfl, le_nI (by omega) (by omega)]; exact eq_false (by omega)
      cases d : hsS (bfs (okW L t oth) (dC L) s0 i) goal
      · have nt' : gI h (a + 2) goal = -1 := by rw [nt]; exact d
        obtain ⟨e, he⟩ : ∃ e, (bfs (okW L t oth) (dC L) s0 i)[i]? = some e := ⟨_, List.getElem?_eq_getElem c⟩
        have v := (hQ.2.1 i e he).1
        have bi : inBd (nI i) 4096 = true := inBd_nI (by omega) (by omega)
        have ti := tc_nI (show i < 2147483648 by omega)
        obtain ⟨h1, e1, sa1, qq1⟩ := s_Se_spread (oth := oth) (f := i) hI hO0 hQ ht hmm hmm2 (wl i) he (μ := 6) (by omega)
        have hS1 := sa1.2.2.1.1
        have st : bfs (okW L t oth) (dC L) s0 (i + 1) = xpd (okW L t oth e.1) e.1 i (dC L) (bfs (okW L t oth) (dC L) s0 i) := by
          show (match (bfs (okW L t oth) (dC L) s0 i)[i]? with
            | some e => xpd (okW L t oth e.1) e.1 i (dC L) (bfs (okW L t oth) (dC L) s0 i)
            | none => bfs (okW L t oth) (dC L) s0 i) = _
          rw [he]
        rw [← st] at qq1
        obtain ⟨h2, i', g, sa2, r⟩ := ih (i + 1) h1 (by omega) sa1.2.2 (sa1.seo hO0) qq1 (fun k hk' => by
          by_cases z : k = i
          · rw [z]; exact ⟨d, c⟩
          · exact hk k (by omega))
        refine ⟨h2, i', ?_, sa1.trans sa2, r⟩
        simp (disch := first | assumption | exact b2i_01 _ | decide | omega | (simp only [kd_sI, ln_sI, hl_sI, gL_sI, gR_sI, kd_sL, ln_sL, hl_sL, gI_sL, gR_sL, kd_sR, ln_sR, hl_sR, gI_sR, gL_sR, kd_cpI, ln_cpI, hl_cpI, gL_cpI, gR_cpI, gI_cpI, gI_sI, gL_sL, gR_sR, St_sI, St_sL, St_cpI, Nat.reduceEqDiff, Nat.reduceAdd, eq_self, false_and, and_false, true_and, and_true, and_self, if_true, if_false, false_or, or_false, true_or, or_true, not_true_eq_false, not_false_eq_true, reduceIte, K_46, F_46_2, F_46_3, F_46_4, F_46_5, F_46_6, F_46_7, hS, hS1, q3, ha2, v3, le1', le2, b1, b2, b3, c1, c2, c3, bg, tg, nt', bi, ti, v, e1, g, nI_1, List.length_nil, List.length_cons, Nat.zero_le] <;> first | done | decide | omega | fail) | fail) only [B_168_0, e_aload_n_1, G_502, e_iload_n_2, e_call_2, psh_s, psh_n, Option.bind_some, e_if_eq, e_iload_4, e_if_lt, e_sipush_4096, e_ic_lt, e_gotow, T_168_24, B_168_24, e_iconst_m1, R_168, T_168_26, B_168_26, G_504, e_iaload, e_istore_6, clr_i, clr_l, clr_a, clr_n, e_iload_n_3, e_iload_6, e_ixor, e_iand, e_istore_7, e_aload_n_0, e_iconst_0, e_istore_8, T_168_53, e_iload_8, G_703, e_ic_ge, G_701, e_saload, e_ic_ne, e_iload_7, G_700, e_call_5, e_iinc_8_1, e_goto, T_168_103, T_168_116, B_168_116, e_aload_5, e_call_3, G_301, kd_sI, ln_sI, hl_sI, gL_sI, gR_sI, kd_sL, ln_sL, hl_sL, gI_sL, gR_sL, kd_sR, ln_sR, hl_sR, gI_sR, gL_sR, kd_cpI, ln_cpI, hl_cpI, gL_cpI, gR_cpI, gI_cpI, gI_sI, gL_sL, gR_sR, St_sI, St_sL, St_cpI, Nat.reduceEqDiff, Nat.reduceAdd, eq_self, false_and, and_false, true_and, and_true, and_self, if_true, if_false, false_or, or_false, true_or, or_true, not_true_eq_false, not_false_eq_true, reduceIte, K_46, F_46_2, F_46_3, F_46_4, F_46_5, F_46_6, F_46_7, hS1, q3, ha2, v3, le1', le2, b1, b2, b3, c1, c2, c3, bg, tg, nt', bi, ti, v, e1, g, nI_1, List.length_nil, List.length_cons, Nat.zero_le]
      · have nt' : ¬ gI h (a + 2) goal = -1 := by rw [nt, d]; decide
        refine ⟨h, i, ?_, SA.rf hI, hQ, hk, Or.inl d⟩
        simp (disch := first | assumption | exact b2i_01 _ | decide | omega | (simp only [kd_sI, ln_sI, hl_sI, gL_sI, gR_sI, kd_sL, ln_sL, hl_sL, gI_sL, gR_sL, kd_sR, ln_sR, hl_sR, gI_sR, gL_sR, kd_cpI, ln_cpI, hl_cpI, gL_cpI, gR_cpI, gI_cpI, gI_sI, gL_sL, gR_sR, St_sI, St_sL, St_cpI, Nat.reduceEqDiff, Nat.reduceAdd, eq_self, false_and, and_false, true_and, and_true, and_self, if_true, if_false, false_or, or_false, true_or, or_true, not_true_eq_false, not_false_eq_true, reduceIte, K_46, F_46_2, F_46_3, F_46_4, F_46_5, F_46_6, F_46_7, hS, q3, ha2, v3, le1', le2, b1, b2, b3, bg, tg, nt'] <;> first | done | decide | omega | fail) | fail) only [B_168_0, e_aload_n_1, G_502, e_iload_n_2, e_call_2, psh_s, psh_n, Option.bind_some, e_if_eq, e_iload_4, e_if_lt, e_sipush_4096, e_ic_lt, e_gotow, T_168_24, B_168_24, e_iconst_m1, R_168, T_168_26, B_168_26, G_504, e_iaload, e_istore_6, clr_i, clr_l, clr_a, clr_n, e_iload_n_3, e_iload_6, e_ixor, e_iand, e_istore_7, e_aload_n_0, e_iconst_0, e_istore_8, T_168_53, e_iload_8, G_703, e_ic_ge, G_701, e_saload, e_ic_ne, e_iload_7, G_700, e_call_5, e_iinc_8_1, e_goto, T_168_103, T_168_116, B_168_116, e_aload_5, e_call_3, G_301, kd_sI, ln_sI, hl_sI, gL_sI, gR_sI, kd_sL, ln_sL, hl_sL, gI_sL, gR_sL, kd_sR, ln_sR, hl_sR, gI_sR, gL_sR, kd_cpI, ln_cpI, hl_cpI, gL_cpI, gR_cpI, gI_cpI, gI_sI, gL_sL, gR_sR, St_sI, St_sL, St_cpI, Nat.reduceEqDiff, Nat.reduceAdd, eq_self, false_and, and_false, true_and, and_true, and_self, if_true, if_false, false_or, or_false, true_or, or_true, not_true_eq_false, not_false_eq_true, reduceIte, K_46, F_46_2, F_46_3, F_46_4, F_46_5, F_46_6, F_46_7, q3, ha2, v3, le1', le2, b1, b2, b3, bg, tg, nt']
    · have le1' : (nI (bfs (okW L t oth) (dC L) s0 i).length ≤ nI i) = True := le1.trans (eq_true c)
      refine ⟨h, i, ?_, SA.rf hI, hQ, hk, Or.inr c⟩
      simp (disch := first | assumption | exact b2i_01 _ | decide | omega | (simp only [kd_sI, ln_sI, hl_sI, gL_sI, gR_sI, kd_sL, ln_sL, hl_sL, gI_sL, gR_sL, kd_sR, ln_sR, hl_sR, gI_sR, gL_sR, kd_cpI, ln_cpI, hl_cpI, gL_cpI, gR_cpI, gI_cpI, gI_sI, gL_sL, gR_sR, St_sI, St_sL, St_cpI, Nat.reduceEqDiff, Nat.reduceAdd, eq_self, false_and, and_false, true_and, and_true, and_self, if_true, if_false, false_or, or_false, true_or, or_true, not_true_eq_false, not_false_eq_true, reduceIte, K_46, F_46_2, F_46_3, F_46_4, F_46_5, F_46_6, F_46_7, hS, q3, ha2, v3, le1'] <;> first | done | decide | omega | fail) | fail) only [B_168_0, e_aload_n_1, G_502, e_iload_n_2, e_call_2, psh_s, psh_n, Option.bind_some, e_if_eq, e_iload_4, e_if_lt, e_sipush_4096, e_ic_lt, e_gotow, T_168_24, B_168_24, e_iconst_m1, R_168, T_168_26, B_168_26, G_504, e_iaload, e_istore_6, clr_i, clr_l, clr_a, clr_n, e_iload_n_3, e_iload_6, e_ixor, e_iand, e_istore_7, e_aload_n_0, e_iconst_0, e_istore_8, T_168_53, e_iload_8, G_703, e_ic_ge, G_701, e_saload, e_ic_ne, e_iload_7, G_700, e_call_5, e_iinc_8_1, e_goto, T_168_103, T_168_116, B_168_116, e_aload_5, e_call_3, G_301, kd_sI, ln_sI, hl_sI, gL_sI, gR_sI, kd_sL, ln_sL, hl_sL, gI_sL, gR_sL, kd_sR, ln_sR, hl_sR, gI_sR, gL_sR, kd_cpI, ln_cpI, hl_cpI, gL_cpI, gR_cpI, gI_cpI, gI_sI, gL_sL, gR_sR, St_sI, St_sL, St_cpI, Nat.reduceEqDiff, Nat.reduceAdd, eq_self, false_and, and_false, true_and, and_true, and_self, if_true, if_false, false_or, or_false, true_or, or_true, not_true_eq_false, not_false_eq_true, reduceIte, K_46, F_46_2, F_46_3, F_46_4, F_46_5, F_46_6, F_46_7, q3, ha2, v3, le1']
/-- the beginning: all unseen, the first noted -/
theorem s_Se_startFrom {o p a s0 : Nat} {L : LD} {h : MH} (hI : QI o p L h) (hO : SeO a h) (h0 : s0 < 4096) {μ : Nat} (hμ : 4 < μ) : ∃ h', cal 169 [.ref a, .int (nI s0)] μ h = some (none, h') ∧ SA o p L a h h' ∧ BqC a [(s0, 4096, 12)] h' := by
  have hS := hI.1.1
  have hO0 := hO
  obtain ⟨q1, q2, q3, -, ⟨b1, b2, b3⟩, -⟩ := hO
  have ha2 : 2 ≤ a := by omega
  have f4 := s_JA_fillS (h := h) (v := -1) (w := -1) (μ := 4) b2 b3 (by omega) (show 2 ≤ a + 2 by omega) (by decide) (by omega)
  have sa1 : SA o p L a h (flS h (a + 2) 4096 (-1)) := (SA.rf hI).flS q2 (by omega) (by omega)
  have sa2 : SA o p L a h (sI (flS h (a + 2) 4096 (-1)) a 3 0) := sa1.sI q2 (by omega) (by omega)
  have hS1 := sa1.2.2.1.1
  have k1 : kd (flS h (a + 2) 4096 (-1)) a = 7 := q3
  obtain ⟨h3, e3, sa3, b3'⟩ := s_Se_note (s := s0) (f := 4096) (b := 12) (E := []) sa2.2.2 (sa2.seo hO0) ⟨by rw [gI_sI, if_pos ⟨rfl, rfl⟩]; rfl, fun j e he => by simp at he, fun s hs _ => by rw [gI_sI, if_neg (by omega), gI_flS, if_pos ⟨rfl, hs⟩]⟩ (fun j e he => by simp at he) (fun _ => by simp) (by simp) h0 (by omega) (μ := 4) (by omega)
  refine ⟨h3, ?_, sa2.trans sa3, b3'⟩
  rw [show nI 12 = 12 from rfl] at e3
  rw [C_169 a _ μ h q3 ha2 hμ]
  simp (disch := first | assumption | exact b2i_01 _ | decide | omega | (simp only [kd_sI, ln_sI, hl_sI, gL_sI, gR_sI, kd_sL, ln_sL, hl_sL, gI_sL, gR_sL, kd_sR, ln_sR, hl_sR, gI_sR, gL_sR, kd_cpI, ln_cpI, hl_cpI, gL_cpI, gR_cpI, gI_cpI, gI_sI, gL_sL, gR_sR, St_sI, St_sL, St_cpI, Nat.reduceEqDiff, Nat.reduceAdd, eq_self, false_and, and_false, true_and, and_true, and_self, if_true, if_false, false_or, or_false, true_or, or_true, not_true_eq_false, not_false_eq_true, reduceIte, K_46, F_46_2, F_46_3, F_46_4, F_46_5, F_46_6, F_46_7, hS, hS1, q3, k1, ha2, b1, f4, e3, List.length_nil, List.length_cons, Nat.zero_le] <;> first | done | decide | omega | fail) | fail) only [B_169_0, e_aload_n_0, G_701, e_iconst_m1, e_call_2, psh_s, psh_n, Option.bind_some, e_iconst_0, P_703, e_iload_n_1, e_bipush_12, e_call_3, R_169, kd_sI, ln_sI, hl_sI, gL_sI, gR_sI, kd_sL, ln_sL, hl_sL, gI_sL, gR_sL, kd_sR, ln_sR, hl_sR, gI_sR, gL_sR, kd_cpI, ln_cpI, hl_cpI, gL_cpI, gR_cpI, gI_cpI, gI_sI, gL_sL, gR_sR, St_sI, St_sL, St_cpI, Nat.reduceEqDiff, Nat.reduceAdd, eq_self, false_and, and_false, true_and, and_true, and_self, if_true, if_false, false_or, or_false, true_or, or_true, not_true_eq_false, not_false_eq_true, reduceIte, K_46, F_46_2, F_46_3, F_46_4, F_46_5, F_46_6, F_46_7, hS1, q3, k1, ha2, b1, f4, e3, List.length_nil, List.length_cons, Nat.zero_le]
