/-! level by level -/
def rnk (l : Nat) : Nat := if l = 7 then 0 else if l = 16 then 1 else if l = 6 then 2 else if l = 15 then 3 else if l = 5 then 4 else if l = 3 then 5 else if l = 12 then 6 else if l = 2 then 7 else if l = 11 then 8 else 9
def ms (l : Nat) (q : Qs) : Nat := 16 * (1602 - qi q) + rnk l
def PrO (pre : List (Int32 × Int32)) : Prop := pre.length = nLf pre + nBi pre + nNt pre ∧ nBi pre ≤ nLf pre
/-- a level's call -/
def Pcl (x : Txt) (N : List Int64) (o : Nat) (pre : List (Int32 × Int32)) (f l k r : Nat) : Prop := ∀ (d : Nat) (q : Qs) (pend c g : Nat) (h : MH) (μ : Nat), d ≤ 7 → c ≤ d → qf q = 0 → ms l q < f → qi q ≤ 1600 → PI x N pre pend c g q → GC x N o pre q h → r + 8 * (8 - d) < μ → ∃ h', cal k [.ref 45, .int (nI d)] μ h = some (none, h') ∧ RdC x N o pre (rd x N f l d q) h' ∧ Sm h h' (WF o)
theorem muN {k r d : Nat} (hk : mkl.getD k (0, 0) = (1, r)) (hd : d ≤ 8) : mu k [.ref 45, .int (nI d)] = r + 8 * (8 - d) := by
  unfold mu
  rw [hk]
  show r + 8 * (8 - (nI d).toNatClampNeg) = _
  rw [tc_nI (by omega)]
theorem tks_v {x : Txt} (hx : TxB x) {i : Nat} (h : tkK (tks x i) = 4) : tkV (tks x i) < 256 := by
  obtain ⟨p, hp, e⟩ := tks_at x hx i
  rw [e] at h ⊢
  have := pG_lt (tkn_sign h)
  omega
theorem qi_le {x : Txt} (hx : TxB x) {q : Qs} (h : ¬ tkK (tks x (qi q)) = 0) : qi (stq q) ≤ 1600 := by
  have := tks_lt hx h
  show qi q + 1 ≤ 1600
  omega
theorem tg_1 {t : Tk} : tg t = 1 ↔ (tkK t = 2 ∧ tkW t = 28530) := by
  unfold tg
  by_cases c : tkK t = 2
  · rw [if_pos c]
    by_cases d : tkW t = 28530
    · rw [if_pos d]; simp [c, d]
    · rw [if_neg d]
      by_cases e : tkW t = 6385252
      · rw [if_pos e]; simp [d]
      · rw [if_neg e]; simp [d]
  · rw [if_neg c]
    constructor
    · intro z
      exfalso
      by_cases d : tkK t = 4
      · rw [if_pos d] at z
        repeat' split at z
        all_goals omega
      · rw [if_neg d] at z; omega
    · intro z; exact absurd z.1 c
theorem tg_2 {t : Tk} : tg t = 2 ↔ (tkK t = 2 ∧ tkW t = 6385252) := by
  unfold tg
  by_cases c : tkK t = 2
  · rw [if_pos c]
    by_cases d : tkW t = 28530
    · rw [if_pos d]
      constructor
      · intro z; omega
      · intro z; rw [d] at z; exact absurd z.2 (by decide)
    · rw [if_neg d]
      by_cases e : tkW t = 6385252
      · rw [if_pos e]; simp [c, e]
      · rw [if_neg e]; simp [e]
  · rw [if_neg c]
    constructor
    · intro z
      exfalso
      by_cases d : tkK t = 4
      · rw [if_pos d] at z
        repeat' split at z
        all_goals omega
      · rw [if_neg d] at z; omega
    · intro z; exact absurd z.1 c
theorem tg_s {t : Tk} : (tg t = 4 ↔ (tkK t = 4 ∧ (tkV t = 60 ∨ tkV t = 62 ∨ tkV t = 61))) ∧ (tg t = 5 ↔ (tkK t = 4 ∧ (tkV t = 43 ∨ tkV t = 45))) ∧ (tg t = 6 ↔ (tkK t = 4 ∧ (tkV t = 42 ∨ tkV t = 47 ∨ tkV t = 37))) := by
  unfold tg
  by_cases c : tkK t = 2
  · rw [if_pos c]
    refine ⟨⟨fun z => ?_, fun z => ?_⟩, ⟨fun z => ?_, fun z => ?_⟩, ⟨fun z => ?_, fun z => ?_⟩⟩
    all_goals first
      | (repeat' split at z) <;> omega
      | omega
  · rw [if_neg c]
    by_cases d : tkK t = 4
    · rw [if_pos d]
      refine ⟨⟨fun z => ?_, fun z => ?_⟩, ⟨fun z => ?_, fun z => ?_⟩, ⟨fun z => ?_, fun z => ?_⟩⟩
      all_goals first
        | (refine ⟨d, ?_⟩; (repeat' split at z) <;> omega)
        | (obtain ⟨-, z⟩ := z; rw [if_neg (by omega), if_neg (by omega), if_pos z])
        | (obtain ⟨-, z⟩ := z; rw [if_neg (by omega), if_pos z])
        | (obtain ⟨-, z⟩ := z; rw [if_pos z])
    · rw [if_neg d]
      refine ⟨⟨fun z => ?_, fun z => ?_⟩, ⟨fun z => ?_, fun z => ?_⟩, ⟨fun z => ?_, fun z => ?_⟩⟩
      all_goals omega
theorem cdo_op {y : Int32} {n : Nat} (h : 20000 + y = nI n) : cdo (3, y) = nI n := h
theorem op_nI {t : Tk} (h : ¬ tg t = 0) : ∃ n, n < 32768 ∧ 20000 + sg t = nI n := by
  have k := (tg_k h).2.2
  have kk : ∀ y : Int32, sgn y → ∃ n, n < 32768 ∧ 20000 + y = nI n := by
    intro y hy
    unfold sgn at hy
    rcases hy with rfl | rfl | rfl | rfl | rfl | rfl | rfl | rfl | rfl | rfl
    · exact ⟨20037, by decide, by decide⟩
    · exact ⟨20038, by decide, by decide⟩
    · exact ⟨20042, by decide, by decide⟩
    · exact ⟨20043, by decide, by decide⟩
    · exact ⟨20045, by decide, by decide⟩
    · exact ⟨20047, by decide, by decide⟩
    · exact ⟨20060, by decide, by decide⟩
    · exact ⟨20061, by decide, by decide⟩
    · exact ⟨20062, by decide, by decide⟩
    · exact ⟨20124, by decide, by decide⟩
  exact kk _ k
/-- the loop of Re.readOr -/
theorem lpc_1 {x : Txt} {N : List Int64} {o : Nat} {pre : List (Int32 × Int32)} (ho : Oo o) (hp : PrO pre) : ∀ f, (∀ f', f' < f → Pcl x N o pre f' 2 81 12) → ∀ d q pend g h n, d ≤ 7 → qf q = 0 → ms 11 q < f → qi q ≤ 1600 → n ≤ qi q → PI x N pre pend 0 (g + 1) q → GC x N o pre q h → ∃ h', rn 80 (13 + 8 * (8 - d)) B_80_7 [some (.ref 45), some (.int (nI d)), some (.int (nI n))] [] h = some (none, h') ∧ RdC x N o pre (rd x N f 11 d q) h' ∧ Sm h h' (WF o) := by
  have e10 : ((1 : Int32) = 0) = False := by simp
  intro f
  induction f with
  | zero => intro _ d q pend g h n _ _ hm; omega
  | succ f ih =>
    intro hP d q pend g h n hd hq hm hi hn hI hG
    have hS := hG.1
    have hx := hG.2.1.1
    have w := s_Re_isWord hS hG.2.2.1 (tks_5 hx (qi q)) 28530 (μ := 13 + 8 * (8 - d)) (by omega)
    rw [rd_lp hq (by decide)]
    have hS' := hS
    by_cases c : tg (tks x (qi q)) + 10 = 11
    · rw [if_pos c]
      have c1 : tg (tks x (qi q)) = 1 := by omega
      have c2 := tg_1.mp c1
      have hk := tg_k (t := tks x (qi q)) (by omega)
      have h16 := tks_lt hx hk.1
      rw [decide_eq_true c2, b2i_t] at w
      obtain ⟨h1, s1, G1, m1⟩ := hG.step ho (μ := 13 + 8 * (8 - d)) (by omega)
      have hms : ms 11 q = 16 * (1602 - qi q) + 8 := rfl
      have hf : 0 < f := by omega
      obtain ⟨h2, s2, R2, m2⟩ := hP f (by omega) d (stq q) pend 0 (g + 1) h1 (13 + 8 * (8 - d)) hd (by omega) hq (by
        have : ms 2 (stq q) = 16 * (1602 - (qi q + 1)) + 7 := rfl
        omega) (qi_le hx hk.1) (hI.stq hx hk.1) G1 (by omega)
      have hmn := rd_mono (x := x) (N := N) f 2 d (stq q)
      have hmn : qi q + 1 ≤ qi (rd x N f 2 d (stq q)) := hmn
      have hqr := rd_qi (N := N) hx f 2 d (stq q) (by unfold Lv; omega) (qi_le hx hk.1)
      have hPI := PI_rd (N := N) (pre := pre) hx f 2 d (stq q) pend 0 (g + 1) (by unfold Lv; omega) hq hd (by omega) (by intro z; omega) (hI.stq hx hk.1)
      rw [if_neg (show ¬ 10 ≤ 2 by decide)] at hPI
      have hsg : sg (tks x (qi q)) = 124 := by unfold sg; rw [if_pos c2.1, if_pos c2.2]
      rw [show nxl (11 - 10) = 2 from rfl, hsg]
      generalize hr : rd x N f 2 d (stq q) = r at R2 hmn hPI hqr ⊢
      obtain ⟨h3, s3, R3, m3⟩ := R2.addop ho (a := (3, 124)) (y := 124) (n := 20124) (by decide) (by decide) (by decide) (fun z => (hPI z).room hx hp (Or.inl (by omega))) (μ := 13 + 8 * (8 - d)) (by omega)
      have t3 := ((W43_WF (o := o) m1).trans m2).trans m3
      have o1 : gR h2 45 1 = .ref o := by
        rcases R2 with ⟨_, z⟩ | ⟨_, z⟩
        · exact z.2.2.2.1.2.2.1
        · exact z.2.2
      have run : rn 80 (13 + 8 * (8 - d)) B_80_7 [some (.ref 45), some (.int (nI d)), some (.int (nI n))] [] h = rn 80 (13 + 8 * (8 - d)) B_80_7 [some (.ref 45), some (.int (nI d)), some (.int (nI (n + 1)))] [] h3 := by
        have hS1 := G1.1
        have hS2 : St h2 := by
          rcases R2 with ⟨_, z⟩ | ⟨_, z⟩ <;> exact z.1
        conv => lhs; rw [B_80_7]
        simp (disch := first | assumption | exact b2i_01 _ | decide | omega | (simp only [kd_sI, ln_sI, hl_sI, gL_sI, gR_sI, kd_sL, ln_sL, hl_sL, gI_sL, gR_sL, kd_sR, ln_sR, hl_sR, gI_sR, gL_sR, kd_cpI, ln_cpI, hl_cpI, gL_cpI, gR_cpI, gI_cpI, gI_sI, gL_sL, gR_sR, St_sI, St_sL, St_cpI, Nat.reduceEqDiff, Nat.reduceAdd, eq_self, false_and, and_false, true_and, and_true, and_self, if_true, if_false, false_or, or_false, true_or, or_true, not_true_eq_false, not_false_eq_true, reduceIte, K_45, F_45_0, KO_0, KO_1, KO_2, NO_2, KO_3, NO_3, KO_4, KO_5, NO_5, KO_6, NO_6, KO_7, NO_7, KO_8, KO_9, NO_9, KO_10, NO_10, KO_11, NO_11, KO_12, NO_12, KO_13, NO_13, KO_14, NO_14, KO_15, KO_16, NO_16, KO_17, NO_17, KO_18, NO_18, KO_19, NO_19, FO_0_0, FO_0_1, FO_0_2, FO_0_3, FO_0_4, FO_0_5, FO_0_6, FO_0_7, FO_0_8, FO_0_9, FO_0_10, FO_0_11, FO_1_0, FO_4_0, FO_8_0, FO_15_0, FO_15_2, FO_15_3, FO_15_4, Oo_2, Oo_p, hS, (eq_false (by simp (disch := omega) only [nI_lit, nI_add, lt_nI, le_nI, eq_nI] <;> omega) : ((1600 : Int32) ≤ nI n) = False), w, e10, s1, hS1, s2, hS2, o1, ho, s3, nI_1, List.length_nil, List.length_cons, Nat.zero_le] <;> first | done | decide | omega | fail) | fail) only [B_80_0, e_aload_n_0, e_iload_n_1, e_call_2, psh_s, psh_n, Option.bind_some, e_iconst_0, e_istore_n_2, clr_i, clr_l, clr_a, clr_n, e_gotow, T_80_7, e_iload_n_2, e_sipush_1600, e_ic_ge, e_ldc2_28530, e_if_eq, G_600, e_call_1, G_601, G_511, e_bipush_124, e_iinc_2_1, e_goto, T_80_54, B_80_54, R_80, kd_sI, ln_sI, hl_sI, gL_sI, gR_sI, kd_sL, ln_sL, hl_sL, gI_sL, gR_sL, kd_sR, ln_sR, hl_sR, gI_sR, gL_sR, kd_cpI, ln_cpI, hl_cpI, gL_cpI, gR_cpI, gI_cpI, gI_sI, gL_sL, gR_sR, St_sI, St_sL, St_cpI, Nat.reduceEqDiff, Nat.reduceAdd, eq_self, false_and, and_false, true_and, and_true, and_self, if_true, if_false, false_or, or_false, true_or, or_true, not_true_eq_false, not_false_eq_true, reduceIte, K_45, F_45_0, KO_0, KO_1, KO_2, NO_2, KO_3, NO_3, KO_4, KO_5, NO_5, KO_6, NO_6, KO_7, NO_7, KO_8, KO_9, NO_9, KO_10, NO_10, KO_11, NO_11, KO_12, NO_12, KO_13, NO_13, KO_14, NO_14, KO_15, KO_16, NO_16, KO_17, NO_17, KO_18, NO_18, KO_19, NO_19, FO_0_0, FO_0_1, FO_0_2, FO_0_3, FO_0_4, FO_0_5, FO_0_6, FO_0_7, FO_0_8, FO_0_9, FO_0_10, FO_0_11, FO_1_0, FO_4_0, FO_8_0, FO_15_0, FO_15_2, FO_15_3, FO_15_4, Oo_2, Oo_p, (eq_false (by simp (disch := omega) only [nI_lit, nI_add, lt_nI, le_nI, eq_nI] <;> omega) : ((1600 : Int32) ≤ nI n) = False), w, e10, s1, hS1, s2, hS2, o1, ho, s3, nI_1, List.length_nil, List.length_cons, Nat.zero_le]
      rw [run]
      rcases R3 with ⟨z, G3⟩ | ⟨z, B3⟩
      · obtain ⟨h4, s4, R4, m4⟩ := ih (fun f' hf' => hP f' (by omega)) d (emt (3, 124) r) pend g h3 (n + 1) hd z (by
          have : ms 11 (emt (3, 124) r) = 16 * (1602 - qi (emt (3, 124) r)) + 8 := rfl
          rw [emt_i] at this
          omega) (by rw [emt_i]; exact hqr) (by rw [emt_i]; omega) (by
          rw [emt_f] at z
          exact (hPI z).bin (by unfold sgn; decide) z) G3
        exact ⟨h4, s4, R4, t3.trans m4⟩
      · refine ⟨h3, ?_, ?_, t3⟩
        · have wb := s_Re_isWordB B3.1 B3.2.1.2.2.1 28530 (μ := 13 + 8 * (8 - d)) (by omega)
          have hS := B3.1
          conv => lhs; rw [B_80_7]
          by_cases cn : n + 1 < 1600
          · simp (disch := first | assumption | exact b2i_01 _ | decide | omega | (simp only [kd_sI, ln_sI, hl_sI, gL_sI, gR_sI, kd_sL, ln_sL, hl_sL, gI_sL, gR_sL, kd_sR, ln_sR, hl_sR, gI_sR, gL_sR, kd_cpI, ln_cpI, hl_cpI, gL_cpI, gR_cpI, gI_cpI, gI_sI, gL_sL, gR_sR, St_sI, St_sL, St_cpI, Nat.reduceEqDiff, Nat.reduceAdd, eq_self, false_and, and_false, true_and, and_true, and_self, if_true, if_false, false_or, or_false, true_or, or_true, not_true_eq_false, not_false_eq_true, reduceIte, K_45, F_45_0, hS, (eq_false (by simp (disch := omega) only [nI_lit, nI_add, lt_nI, le_nI, eq_nI] <;> omega) : ((1600 : Int32) ≤ nI (n + 1)) = False), wb, List.length_nil, List.length_cons, Nat.zero_le] <;> first | done | decide | omega | fail) | fail) only [B_80_0, e_aload_n_0, e_iload_n_1, e_call_2, psh_s, psh_n, Option.bind_some, e_iconst_0, e_istore_n_2, clr_i, clr_l, clr_a, clr_n, e_gotow, T_80_7, e_iload_n_2, e_sipush_1600, e_ic_ge, e_ldc2_28530, e_if_eq, G_600, e_call_1, G_601, G_511, e_bipush_124, e_iinc_2_1, e_goto, T_80_54, B_80_54, R_80, kd_sI, ln_sI, hl_sI, gL_sI, gR_sI, kd_sL, ln_sL, hl_sL, gI_sL, gR_sL, kd_sR, ln_sR, hl_sR, gI_sR, gL_sR, kd_cpI, ln_cpI, hl_cpI, gL_cpI, gR_cpI, gI_cpI, gI_sI, gL_sL, gR_sR, St_sI, St_sL, St_cpI, Nat.reduceEqDiff, Nat.reduceAdd, eq_self, false_and, and_false, true_and, and_true, and_self, if_true, if_false, false_or, or_false, true_or, or_true, not_true_eq_false, not_false_eq_true, reduceIte, K_45, F_45_0, (eq_false (by simp (disch := omega) only [nI_lit, nI_add, lt_nI, le_nI, eq_nI] <;> omega) : ((1600 : Int32) ≤ nI (n + 1)) = False), wb, List.length_nil, List.length_cons, Nat.zero_le]
          · simp (disch := first | assumption | exact b2i_01 _ | decide | omega | (simp only [kd_sI, ln_sI, hl_sI, gL_sI, gR_sI, kd_sL, ln_sL, hl_sL, gI_sL, gR_sL, kd_sR, ln_sR, hl_sR, gI_sR, gL_sR, kd_cpI, ln_cpI, hl_cpI, gL_cpI, gR_cpI, gI_cpI, gI_sI, gL_sL, gR_sR, St_sI, St_sL, St_cpI, Nat.reduceEqDiff, Nat.reduceAdd, eq_self, false_and, and_false, true_and, and_true, and_self, if_true, if_false, false_or, or_false, true_or, or_true, not_true_eq_false, not_false_eq_true, reduceIte, K_45, F_45_0, hS, (eq_true (by simp (disch := omega) only [nI_lit, nI_add, lt_nI, le_nI, eq_nI] <;> omega) : ((1600 : Int32) ≤ nI (n + 1)) = True), wb, List.length_nil, List.length_cons, Nat.zero_le] <;> first | done | decide | omega | fail) | fail) only [B_80_0, e_aload_n_0, e_iload_n_1, e_call_2, psh_s, psh_n, Option.bind_some, e_iconst_0, e_istore_n_2, clr_i, clr_l, clr_a, clr_n, e_gotow, T_80_7, e_iload_n_2, e_sipush_1600, e_ic_ge, e_ldc2_28530, e_if_eq, G_600, e_call_1, G_601, G_511, e_bipush_124, e_iinc_2_1, e_goto, T_80_54, B_80_54, R_80, kd_sI, ln_sI, hl_sI, gL_sI, gR_sI, kd_sL, ln_sL, hl_sL, gI_sL, gR_sL, kd_sR, ln_sR, hl_sR, gI_sR, gL_sR, kd_cpI, ln_cpI, hl_cpI, gL_cpI, gR_cpI, gI_cpI, gI_sI, gL_sL, gR_sR, St_sI, St_sL, St_cpI, Nat.reduceEqDiff, Nat.reduceAdd, eq_self, false_and, and_false, true_and, and_true, and_self, if_true, if_false, false_or, or_false, true_or, or_true, not_true_eq_false, not_false_eq_true, reduceIte, K_45, F_45_0, (eq_true (by simp (disch := omega) only [nI_lit, nI_add, lt_nI, le_nI, eq_nI] <;> omega) : ((1600 : Int32) ≤ nI (n + 1)) = True), wb, List.length_nil, List.length_cons, Nat.zero_le]
        · obtain ⟨f', rfl⟩ : ∃ f', f = f' + 1 := ⟨f - 1, by omega⟩
          rw [rd_stop z]
          exact Or.inr ⟨z, B3⟩
    · rw [if_neg c]
      refine ⟨h, ?_, Or.inl ⟨hq, hG⟩, Sm.rf h _⟩
      have c2 : ¬ (tkK (tks x (qi q)) = 2 ∧ tkW (tks x (qi q)) = 28530) := fun z => by
        have := tg_1.mpr z
        omega
      rw [decide_eq_false c2, b2i_f] at w
      conv => lhs; rw [B_80_7]
      by_cases cn : n < 1600
      · simp (disch := first | assumption | exact b2i_01 _ | decide | omega | (simp only [kd_sI, ln_sI, hl_sI, gL_sI, gR_sI, kd_sL, ln_sL, hl_sL, gI_sL, gR_sL, kd_sR, ln_sR, hl_sR, gI_sR, gL_sR, kd_cpI, ln_cpI, hl_cpI, gL_cpI, gR_cpI, gI_cpI, gI_sI, gL_sL, gR_sR, St_sI, St_sL, St_cpI, Nat.reduceEqDiff, Nat.reduceAdd, eq_self, false_and, and_false, true_and, and_true, and_self, if_true, if_false, false_or, or_false, true_or, or_true, not_true_eq_false, not_false_eq_true, reduceIte, K_45, F_45_0, hS, (eq_false (by simp (disch := omega) only [nI_lit, nI_add, lt_nI, le_nI, eq_nI] <;> omega) : ((1600 : Int32) ≤ nI n) = False), w, List.length_nil, List.length_cons, Nat.zero_le] <;> first | done | decide | omega | fail) | fail) only [B_80_0, e_aload_n_0, e_iload_n_1, e_call_2, psh_s, psh_n, Option.bind_some, e_iconst_0, e_istore_n_2, clr_i, clr_l, clr_a, clr_n, e_gotow, T_80_7, e_iload_n_2, e_sipush_1600, e_ic_ge, e_ldc2_28530, e_if_eq, G_600, e_call_1, G_601, G_511, e_bipush_124, e_iinc_2_1, e_goto, T_80_54, B_80_54, R_80, kd_sI, ln_sI, hl_sI, gL_sI, gR_sI, kd_sL, ln_sL, hl_sL, gI_sL, gR_sL, kd_sR, ln_sR, hl_sR, gI_sR, gL_sR, kd_cpI, ln_cpI, hl_cpI, gL_cpI, gR_cpI, gI_cpI, gI_sI, gL_sL, gR_sR, St_sI, St_sL, St_cpI, Nat.reduceEqDiff, Nat.reduceAdd, eq_self, false_and, and_false, true_and, and_true, and_self, if_true, if_false, false_or, or_false, true_or, or_true, not_true_eq_false, not_false_eq_true, reduceIte, K_45, F_45_0, (eq_false (by simp (disch := omega) only [nI_lit, nI_add, lt_nI, le_nI, eq_nI] <;> omega) : ((1600 : Int32) ≤ nI n) = False), w, List.length_nil, List.length_cons, Nat.zero_le]
      · simp (disch := first | assumption | exact b2i_01 _ | decide | omega | (simp only [kd_sI, ln_sI, hl_sI, gL_sI, gR_sI, kd_sL, ln_sL, hl_sL, gI_sL, gR_sL, kd_sR, ln_sR, hl_sR, gI_sR, gL_sR, kd_cpI, ln_cpI, hl_cpI, gL_cpI, gR_cpI, gI_cpI, gI_sI, gL_sL, gR_sR, St_sI, St_sL, St_cpI, Nat.reduceEqDiff, Nat.reduceAdd, eq_self, false_and, and_false, true_and, and_true, and_self, if_true, if_false, false_or, or_false, true_or, or_true, not_true_eq_false, not_false_eq_true, reduceIte, K_45, F_45_0, hS, (eq_true (by simp (disch := omega) only [nI_lit, nI_add, lt_nI, le_nI, eq_nI] <;> omega) : ((1600 : Int32) ≤ nI n) = True), w, List.length_nil, List.length_cons, Nat.zero_le] <;> first | done | decide | omega | fail) | fail) only [B_80_0, e_aload_n_0, e_iload_n_1, e_call_2, psh_s, psh_n, Option.bind_some, e_iconst_0, e_istore_n_2, clr_i, clr_l, clr_a, clr_n, e_gotow, T_80_7, e_iload_n_2, e_sipush_1600, e_ic_ge, e_ldc2_28530, e_if_eq, G_600, e_call_1, G_601, G_511, e_bipush_124, e_iinc_2_1, e_goto, T_80_54, B_80_54, R_80, kd_sI, ln_sI, hl_sI, gL_sI, gR_sI, kd_sL, ln_sL, hl_sL, gI_sL, gR_sL, kd_sR, ln_sR, hl_sR, gI_sR, gL_sR, kd_cpI, ln_cpI, hl_cpI, gL_cpI, gR_cpI, gI_cpI, gI_sI, gL_sL, gR_sR, St_sI, St_sL, St_cpI, Nat.reduceEqDiff, Nat.reduceAdd, eq_self, false_and, and_false, true_and, and_true, and_self, if_true, if_false, false_or, or_false, true_or, or_true, not_true_eq_false, not_false_eq_true, reduceIte, K_45, F_45_0, (eq_true (by simp (disch := omega) only [nI_lit, nI_add, lt_nI, le_nI, eq_nI] <;> omega) : ((1600 : Int32) ≤ nI n) = True), w, List.length_nil, List.length_cons, Nat.zero_le]
theorem pcl_1 {x : Txt} {N : List Int64} {o : Nat} {pre : List (Int32 × Int32)} (ho : Oo o) (hp : PrO pre) {f : Nat} (hP : ∀ f', f' ≤ f → Pcl x N o pre f' 2 81 12) : Pcl x N o pre (f + 1) 1 80 13 := by
  intro d q pend c g h μ hd hc hq hm hi hI hG hμ
  have hS := hG.1
  have hx := hG.2.1.1
  have hmu := muN (k := 80) (r := 13) (d := d) rfl (by omega)
  have hms : ms 1 q = 16 * (1602 - qi q) + 9 := rfl
  obtain ⟨h2, s2, R2, m2⟩ := hP f (Nat.le_refl _) d q pend c g h (13 + 8 * (8 - d)) hd hc hq (by
    have : ms 2 q = 16 * (1602 - qi q) + 7 := rfl
    omega) hi hI hG (by omega)
  have hPI := PI_rd (N := N) (pre := pre) hx f 2 d q pend c g (by unfold Lv; omega) hq hd hc (by intro z; omega) hI
  rw [if_neg (show ¬ 10 ≤ 2 by decide)] at hPI
  have hmn := rd_mono (x := x) (N := N) f 2 d q
  have hqr := rd_qi (N := N) hx f 2 d q (by unfold Lv; omega) hi
  rw [rd_lv hq (by decide) (by decide) (by decide), show nxl 1 = 2 from rfl]
  rw [C_80 45 _ μ h (K_45 hS) (by decide) (by rw [hmu]; exact hμ), hmu]
  generalize rd x N f 2 d q = r at R2 hPI hmn hqr ⊢
  rcases R2 with ⟨z, G2⟩ | ⟨z, B2⟩
  · obtain ⟨h3, s3, R3, m3⟩ := lpc_1 ho hp f (fun f' hf' => hP f' (by omega)) d r pend g h2 0 hd z (by
      have : ms 11 r = 16 * (1602 - qi r) + 8 := rfl
      omega) hqr (by omega) (hPI z) G2
    refine ⟨h3, ?_, R3, m2.trans m3⟩
    simp (disch := first | assumption | exact b2i_01 _ | decide | omega | (simp only [kd_sI, ln_sI, hl_sI, gL_sI, gR_sI, kd_sL, ln_sL, hl_sL, gI_sL, gR_sL, kd_sR, ln_sR, hl_sR, gI_sR, gL_sR, kd_cpI, ln_cpI, hl_cpI, gL_cpI, gR_cpI, gI_cpI, gI_sI, gL_sL, gR_sR, St_sI, St_sL, St_cpI, Nat.reduceEqDiff, Nat.reduceAdd, eq_self, false_and, and_false, true_and, and_true, and_self, if_true, if_false, false_or, or_false, true_or, or_true, not_true_eq_false, not_false_eq_true, reduceIte, K_45, F_45_0, hS, s2, List.length_nil, List.length_cons, Nat.zero_le] <;> first | done | decide | omega | fail) | fail) only [B_80_0, e_aload_n_0, e_iload_n_1, e_call_2, psh_s, psh_n, Option.bind_some, e_iconst_0, e_istore_n_2, clr_i, clr_l, clr_a, clr_n, e_gotow, T_80_7, e_iload_n_2, e_sipush_1600, e_ic_ge, e_ldc2_28530, e_if_eq, G_600, e_call_1, G_601, G_511, e_bipush_124, e_iinc_2_1, e_goto, T_80_54, B_80_54, R_80, kd_sI, ln_sI, hl_sI, gL_sI, gR_sI, kd_sL, ln_sL, hl_sL, gI_sL, gR_sL, kd_sR, ln_sR, hl_sR, gI_sR, gL_sR, kd_cpI, ln_cpI, hl_cpI, gL_cpI, gR_cpI, gI_cpI, gI_sI, gL_sL, gR_sR, St_sI, St_sL, St_cpI, Nat.reduceEqDiff, Nat.reduceAdd, eq_self, false_and, and_false, true_and, and_true, and_self, if_true, if_false, false_or, or_false, true_or, or_true, not_true_eq_false, not_false_eq_true, reduceIte, K_45, F_45_0, s2, List.length_nil, List.length_cons, Nat.zero_le]
    exact s3
  · have wb := s_Re_isWordB B2.1 B2.2.1.2.2.1 28530 (μ := 13 + 8 * (8 - d)) (by omega)
    refine ⟨h2, ?_, ?_, m2⟩
    · have hS2 := B2.1
      simp (disch := first | assumption | exact b2i_01 _ | decide | omega | (simp only [kd_sI, ln_sI, hl_sI, gL_sI, gR_sI, kd_sL, ln_sL, hl_sL, gI_sL, gR_sL, kd_sR, ln_sR, hl_sR, gI_sR, gL_sR, kd_cpI, ln_cpI, hl_cpI, gL_cpI, gR_cpI, gI_cpI, gI_sI, gL_sL, gR_sR, St_sI, St_sL, St_cpI, Nat.reduceEqDiff, Nat.reduceAdd, eq_self, false_and, and_false, true_and, and_true, and_self, if_true, if_false, false_or, or_false, true_or, or_true, not_true_eq_false, not_false_eq_true, reduceIte, K_45, F_45_0, hS, s2, wb, show ((1600 : Int32) ≤ 0) = False by decide, List.length_nil, List.length_cons, Nat.zero_le] <;> first | done | decide | omega | fail) | fail) only [B_80_0, e_aload_n_0, e_iload_n_1, e_call_2, psh_s, psh_n, Option.bind_some, e_iconst_0, e_istore_n_2, clr_i, clr_l, clr_a, clr_n, e_gotow, T_80_7, B_80_7, e_iload_n_2, e_sipush_1600, e_ic_ge, e_ldc2_28530, e_if_eq, G_600, e_call_1, G_601, G_511, e_bipush_124, e_iinc_2_1, e_goto, T_80_54, B_80_54, R_80, kd_sI, ln_sI, hl_sI, gL_sI, gR_sI, kd_sL, ln_sL, hl_sL, gI_sL, gR_sL, kd_sR, ln_sR, hl_sR, gI_sR, gL_sR, kd_cpI, ln_cpI, hl_cpI, gL_cpI, gR_cpI, gI_cpI, gI_sI, gL_sL, gR_sR, St_sI, St_sL, St_cpI, Nat.reduceEqDiff, Nat.reduceAdd, eq_self, false_and, and_false, true_and, and_true, and_self, if_true, if_false, false_or, or_false, true_or, or_true, not_true_eq_false, not_false_eq_true, reduceIte, K_45, F_45_0, s2, wb, show ((1600 : Int32) ≤ 0) = False by decide, List.length_nil, List.length_cons, Nat.zero_le]
    · obtain ⟨f', rfl⟩ : ∃ f', f = f' + 1 := ⟨f - 1, by omega⟩
      rw [rd_stop z]
      exact Or.inr ⟨z, B2⟩
/-- the loop of Re.readAnd -/
theorem lpc_2 {x : Txt} {N : List Int64} {o : Nat} {pre : List (Int32 × Int32)} (ho : Oo o) (hp : PrO pre) : ∀ f, (∀ f', f' < f → Pcl x N o pre f' 3 82 11) → ∀ d q pend g h n, d ≤ 7 → qf q = 0 → ms 12 q < f → qi q ≤ 1600 → n ≤ qi q → PI x N pre pend 0 (g + 1) q → GC x N o pre q h → ∃ h', rn 81 (12 + 8 * (8 - d)) B_81_7 [some (.ref 45), some (.int (nI d)), some (.int (nI n))] [] h = some (none, h') ∧ RdC x N o pre (rd x N f 12 d q) h' ∧ Sm h h' (WF o) := by
  have e10 : ((1 : Int32) = 0) = False := by simp
  intro f
  induction f with
  | zero => intro _ d q pend g h n _ _ hm; omega
  | succ f ih =>
    intro hP d q pend g h n hd hq hm hi hn hI hG
    have hS := hG.1
    have hx := hG.2.1.1
    have w := s_Re_isWord hS hG.2.2.1 (tks_5 hx (qi q)) 6385252 (μ := 12 + 8 * (8 - d)) (by omega)
    rw [rd_lp hq (by decide)]
    have hS' := hS
    by_cases c : tg (tks x (qi q)) + 10 = 12
    · rw [if_pos c]
      have c1 : tg (tks x (qi q)) = 2 := by omega
      have c2 := tg_2.mp c1
      have hk := tg_k (t := tks x (qi q)) (by omega)
      have h16 := tks_lt hx hk.1
      rw [decide_eq_true c2, b2i_t] at w
      obtain ⟨h1, s1, G1, m1⟩ := hG.step ho (μ := 12 + 8 * (8 - d)) (by omega)
      have hms : ms 12 q = 16 * (1602 - qi q) + 6 := rfl
      have hf : 0 < f := by omega
      obtain ⟨h2, s2, R2, m2⟩ := hP f (by omega) d (stq q) pend 0 (g + 1) h1 (12 + 8 * (8 - d)) hd (by omega) hq (by
        have : ms 3 (stq q) = 16 * (1602 - (qi q + 1)) + 5 := rfl
        omega) (qi_le hx hk.1) (hI.stq hx hk.1) G1 (by omega)
      have hmn := rd_mono (x := x) (N := N) f 3 d (stq q)
      have hmn : qi q + 1 ≤ qi (rd x N f 3 d (stq q)) := hmn
      have hqr := rd_qi (N := N) hx f 3 d (stq q) (by unfold Lv; omega) (qi_le hx hk.1)
      have hPI := PI_rd (N := N) (pre := pre) hx f 3 d (stq q) pend 0 (g + 1) (by unfold Lv; omega) hq hd (by omega) (by intro z; omega) (hI.stq hx hk.1)
      rw [if_neg (show ¬ 10 ≤ 3 by decide)] at hPI
      have hsg : sg (tks x (qi q)) = 38 := by unfold sg; rw [if_pos c2.1, if_neg (by rw [c2.2]; decide)]
      rw [show nxl (12 - 10) = 3 from rfl, hsg]
      generalize hr : rd x N f 3 d (stq q) = r at R2 hmn hPI hqr ⊢
      obtain ⟨h3, s3, R3, m3⟩ := R2.addop ho (a := (3, 38)) (y := 38) (n := 20038) (by decide) (by decide) (by decide) (fun z => (hPI z).room hx hp (Or.inl (by omega))) (μ := 12 + 8 * (8 - d)) (by omega)
      have t3 := ((W43_WF (o := o) m1).trans m2).trans m3
      have o1 : gR h2 45 1 = .ref o := by
        rcases R2 with ⟨_, z⟩ | ⟨_, z⟩
        · exact z.2.2.2.1.2.2.1
        · exact z.2.2
      have run : rn 81 (12 + 8 * (8 - d)) B_81_7 [some (.ref 45), some (.int (nI d)), some (.int (nI n))] [] h = rn 81 (12 + 8 * (8 - d)) B_81_7 [some (.ref 45), some (.int (nI d)), some (.int (nI (n + 1)))] [] h3 := by
        have hS1 := G1.1
        have hS2 : St h2 := by
          rcases R2 with ⟨_, z⟩ | ⟨_, z⟩ <;> exact z.1
        conv => lhs; rw [B_81_7]
        simp (disch := first | assumption | exact b2i_01 _ | decide | omega | (simp only [kd_sI, ln_sI, hl_sI, gL_sI, gR_sI, kd_sL, ln_sL, hl_sL, gI_sL, gR_sL, kd_sR, ln_sR, hl_sR, gI_sR, gL_sR, kd_cpI, ln_cpI, hl_cpI, gL_cpI, gR_cpI, gI_cpI, gI_sI, gL_sL, gR_sR, St_sI, St_sL, St_cpI, Nat.reduceEqDiff, Nat.reduceAdd, eq_self, false_and, and_false, true_and, and_true, and_self, if_true, if_false, false_or, or_false, true_or, or_true, not_true_eq_false, not_false_eq_true, reduceIte, K_45, F_45_0, KO_0, KO_1, KO_2, NO_2, KO_3, NO_3, KO_4, KO_5, NO_5, KO_6, NO_6, KO_7, NO_7, KO_8, KO_9, NO_9, KO_10, NO_10, KO_11, NO_11, KO_12, NO_12, KO_13, NO_13, KO_14, NO_14, KO_15, KO_16, NO_16, KO_17, NO_17, KO_18, NO_18, KO_19, NO_19, FO_0_0, FO_0_1, FO_0_2, FO_0_3, FO_0_4, FO_0_5, FO_0_6, FO_0_7, FO_0_8, FO_0_9, FO_0_10, FO_0_11, FO_1_0, FO_4_0, FO_8_0, FO_15_0, FO_15_2, FO_15_3, FO_15_4, Oo_2, Oo_p, hS, (eq_false (by simp (disch := omega) only [nI_lit, nI_add, lt_nI, le_nI, eq_nI] <;> omega) : ((1600 : Int32) ≤ nI n) = False), w, e10, s1, hS1, s2, hS2, o1, ho, s3, nI_1, List.length_nil, List.length_cons, Nat.zero_le] <;> first | done | decide | omega | fail) | fail) only [B_81_0, e_aload_n_0, e_iload_n_1, e_call_2, psh_s, psh_n, Option.bind_some, e_iconst_0, e_istore_n_2, clr_i, clr_l, clr_a, clr_n, e_gotow, T_81_7, e_iload_n_2, e_sipush_1600, e_ic_ge, e_ldc2_6385252, e_if_eq, G_600, e_call_1, G_601, G_511, e_bipush_38, e_iinc_2_1, e_goto, T_81_54, B_81_54, R_81, kd_sI, ln_sI, hl_sI, gL_sI, gR_sI, kd_sL, ln_sL, hl_sL, gI_sL, gR_sL, kd_sR, ln_sR, hl_sR, gI_sR, gL_sR, kd_cpI, ln_cpI, hl_cpI, gL_cpI, gR_cpI, gI_cpI, gI_sI, gL_sL, gR_sR, St_sI, St_sL, St_cpI, Nat.reduceEqDiff, Nat.reduceAdd, eq_self, false_and, and_false, true_and, and_true, and_self, if_true, if_false, false_or, or_false, true_or, or_true, not_true_eq_false, not_false_eq_true, reduceIte, K_45, F_45_0, KO_0, KO_1, KO_2, NO_2, KO_3, NO_3, KO_4, KO_5, NO_5, KO_6, NO_6, KO_7, NO_7, KO_8, KO_9, NO_9, KO_10, NO_10, KO_11, NO_11, KO_12, NO_12, KO_13, NO_13, KO_14, NO_14, KO_15, KO_16, NO_16, KO_17, NO_17, KO_18, NO_18, KO_19, NO_19, FO_0_0, FO_0_1, FO_0_2, FO_0_3, FO_0_4, FO_0_5, FO_0_6, FO_0_7, FO_0_8, FO_0_9, FO_0_10, FO_0_11, FO_1_0, FO_4_0, FO_8_0, FO_15_0, FO_15_2, FO_15_3, FO_15_4, Oo_2, Oo_p, (eq_false (by simp (disch := omega) only [nI_lit, nI_add, lt_nI, le_nI, eq_nI] <;> omega) : ((1600 : Int32) ≤ nI n) = False), w, e10, s1, hS1, s2, hS2, o1, ho, s3, nI_1, List.length_nil, List.length_cons, Nat.zero_le]
      rw [run]
      rcases R3 with ⟨z, G3⟩ | ⟨z, B3⟩
      · obtain ⟨h4, s4, R4, m4⟩ := ih (fun f' hf' => hP f' (by omega)) d (emt (3, 38) r) pend g h3 (n + 1) hd z (by
          have : ms 12 (emt (3, 38) r) = 16 * (1602 - qi (emt (3, 38) r)) + 6 := rfl
          rw [emt_i] at this
          omega) (by rw [emt_i]; exact hqr) (by rw [emt_i]; omega) (by
          rw [emt_f] at z
          exact (hPI z).bin (by unfold sgn; decide) z) G3
        exact ⟨h4, s4, R4, t3.trans m4⟩
      · refine ⟨h3, ?_, ?_, t3⟩
        · have wb := s_Re_isWordB B3.1 B3.2.1.2.2.1 6385252 (μ := 12 + 8 * (8 - d)) (by omega)
          have hS := B3.1
          conv => lhs; rw [B_81_7]
          by_cases cn : n + 1 < 1600
          · simp (disch := first | assumption | exact b2i_01 _ | decide | omega | (simp only [kd_sI, ln_sI, hl_sI, gL_sI, gR_sI, kd_sL, ln_sL, hl_sL, gI_sL, gR_sL, kd_sR, ln_sR, hl_sR, gI_sR, gL_sR, kd_cpI, ln_cpI, hl_cpI, gL_cpI, gR_cpI, gI_cpI, gI_sI, gL_sL, gR_sR, St_sI, St_sL, St_cpI, Nat.reduceEqDiff, Nat.reduceAdd, eq_self, false_and, and_false, true_and, and_true, and_self, if_true, if_false, false_or, or_false, true_or, or_true, not_true_eq_false, not_false_eq_true, reduceIte, K_45, F_45_0, hS, (eq_false (by simp (disch := omega) only [nI_lit, nI_add, lt_nI, le_nI, eq_nI] <;> omega) : ((1600 : Int32) ≤ nI (n + 1)) = False), wb, List.length_nil, List.length_cons, Nat.zero_le] <;> first | done | decide | omega | fail) | fail) only [B_81_0, e_aload_n_0, e_iload_n_1, e_call_2, psh_s, psh_n, Option.bind_some, e_iconst_0, e_istore_n_2, clr_i, clr_l, clr_a, clr_n, e_gotow, T_81_7, e_iload_n_2, e_sipush_1600, e_ic_ge, e_ldc2_6385252, e_if_eq, G_600, e_call_1, G_601, G_511, e_bipush_38, e_iinc_2_1, e_goto, T_81_54, B_81_54, R_81, kd_sI, ln_sI, hl_sI, gL_sI, gR_sI, kd_sL, ln_sL, hl_sL, gI_sL, gR_sL, kd_sR, ln_sR, hl_sR, gI_sR, gL_sR, kd_cpI, ln_cpI, hl_cpI, gL_cpI, gR_cpI, gI_cpI, gI_sI, gL_sL, gR_sR, St_sI, St_sL, St_cpI, Nat.reduceEqDiff, Nat.reduceAdd, eq_self, false_and, and_false, true_and, and_true, and_self, if_true, if_false, false_or, or_false, true_or, or_true, not_true_eq_false, not_false_eq_true, reduceIte, K_45, F_45_0, (eq_false (by simp (disch := omega) only [nI_lit, nI_add, lt_nI, le_nI, eq_nI] <;> omega) : ((1600 : Int32) ≤ nI (n + 1)) = False), wb, List.length_nil, List.length_cons, Nat.zero_le]
          · simp (disch := first | assumption | exact b2i_01 _ | decide | omega | (simp only [kd_sI, ln_sI, hl_sI, gL_sI, gR_sI, kd_sL, ln_sL, hl_sL, gI_sL, gR_sL, kd_sR, ln_sR, hl_sR, gI_sR, gL_sR, kd_cpI, ln_cpI, hl_cpI, gL_cpI, gR_cpI, gI_cpI, gI_sI, gL_sL, gR_sR, St_sI, St_sL, St_cpI, Nat.reduceEqDiff, Nat.reduceAdd, eq_self, false_and, and_false, true_and, and_true, and_self, if_true, if_false, false_or, or_false, true_or, or_true, not_true_eq_false, not_false_eq_true, reduceIte, K_45, F_45_0, hS, (eq_true (by simp (disch := omega) only [nI_lit, nI_add, lt_nI, le_nI, eq_nI] <;> omega) : ((1600 : Int32) ≤ nI (n + 1)) = True), wb, List.length_nil, List.length_cons, Nat.zero_le] <;> first | done | decide | omega | fail) | fail) only [B_81_0, e_aload_n_0, e_iload_n_1, e_call_2, psh_s, psh_n, Option.bind_some, e_iconst_0, e_istore_n_2, clr_i, clr_l, clr_a, clr_n, e_gotow, T_81_7, e_iload_n_2, e_sipush_1600, e_ic_ge, e_ldc2_6385252, e_if_eq, G_600, e_call_1, G_601, G_511, e_bipush_38, e_iinc_2_1, e_goto, T_81_54, B_81_54, R_81, kd_sI, ln_sI, hl_sI, gL_sI, gR_sI, kd_sL, ln_sL, hl_sL, gI_sL, gR_sL, kd_sR, ln_sR, hl_sR, gI_sR, gL_sR, kd_cpI, ln_cpI, hl_cpI, gL_cpI, gR_cpI, gI_cpI, gI_sI, gL_sL, gR_sR, St_sI, St_sL, St_cpI, Nat.reduceEqDiff, Nat.reduceAdd, eq_self, false_and, and_false, true_and, and_true, and_self, if_true, if_false, false_or, or_false, true_or, or_true, not_true_eq_false, not_false_eq_true, reduceIte, K_45, F_45_0, (eq_true (by simp (disch := omega) only [nI_lit, nI_add, lt_nI, le_nI, eq_nI] <;> omega) : ((1600 : Int32) ≤ nI (n + 1)) = True), wb, List.length_nil, List.length_cons, Nat.zero_le]
        · obtain ⟨f', rfl⟩ : ∃ f', f = f' + 1 := ⟨f - 1, by omega⟩
          rw [rd_stop z]
          exact Or.inr ⟨z, B3⟩
    · rw [if_neg c]
      refine ⟨h, ?_, Or.inl ⟨hq, hG⟩, Sm.rf h _⟩
      have c2 : ¬ (tkK (tks x (qi q)) = 2 ∧ tkW (tks x (qi q)) = 6385252) := fun z => by
        have := tg_2.mpr z
        omega
      rw [decide_eq_false c2, b2i_f] at w
      conv => lhs; rw [B_81_7]
      by_cases cn : n < 1600
      · simp (disch := first | assumption | exact b2i_01 _ | decide | omega | (simp only [kd_sI, ln_sI, hl_sI, gL_sI, gR_sI, kd_sL, ln_sL, hl_sL, gI_sL, gR_sL, kd_sR, ln_sR, hl_sR, gI_sR, gL_sR, kd_cpI, ln_cpI, hl_cpI, gL_cpI, gR_cpI, gI_cpI, gI_sI, gL_sL, gR_sR, St_sI, St_sL, St_cpI, Nat.reduceEqDiff, Nat.reduceAdd, eq_self, false_and, and_false, true_and, and_true, and_self, if_true, if_false, false_or, or_false, true_or, or_true, not_true_eq_false, not_false_eq_true, reduceIte, K_45, F_45_0, hS, (eq_false (by simp (disch := omega) only [nI_lit, nI_add, lt_nI, le_nI, eq_nI] <;> omega) : ((1600 : Int32) ≤ nI n) = False), w, List.length_nil, List.length_cons, Nat.zero_le] <;> first | done | decide | omega | fail) | fail) only [B_81_0, e_aload_n_0, e_iload_n_1, e_call_2, psh_s, psh_n, Option.bind_some, e_iconst_0, e_istore_n_2, clr_i, clr_l, clr_a, clr_n, e_gotow, T_81_7, e_iload_n_2, e_sipush_1600, e_ic_ge, e_ldc2_6385252, e_if_eq, G_600, e_call_1, G_601, G_511, e_bipush_38, e_iinc_2_1, e_goto, T_81_54, B_81_54, R_81, kd_sI, ln_sI, hl_sI, gL_sI, gR_sI, kd_sL, ln_sL, hl_sL, gI_sL, gR_sL, kd_sR, ln_sR, hl_sR, gI_sR, gL_sR, kd_cpI, ln_cpI, hl_cpI, gL_cpI, gR_cpI, gI_cpI, gI_sI, gL_sL, gR_sR, St_sI, St_sL, St_cpI, Nat.reduceEqDiff, Nat.reduceAdd, eq_self, false_and, and_false, true_and, and_true, and_self, if_true, if_false, false_or, or_false, true_or, or_true, not_true_eq_false, not_false_eq_true, reduceIte, K_45, F_45_0, (eq_false (by simp (disch := omega) only [nI_lit, nI_add, lt_nI, le_nI, eq_nI] <;> omega) : ((1600 : Int32) ≤ nI n) = False), w, List.length_nil, List.length_cons, Nat.zero_le]
      · simp (disch := first | assumption | exact b2i_01 _ | decide | omega | (simp only [kd_sI, ln_sI, hl_sI, gL_sI, gR_sI, kd_sL, ln_sL, hl_sL, gI_sL, gR_sL, kd_sR, ln_sR, hl_sR, gI_sR, gL_sR, kd_cpI, ln_cpI, hl_cpI, gL_cpI, gR_cpI, gI_cpI, gI_sI, gL_sL, gR_sR, St_sI, St_sL, St_cpI, Nat.reduceEqDiff, Nat.reduceAdd, eq_self, false_and, and_false, true_and, and_true, and_self, if_true, if_false, false_or, or_false, true_or, or_true, not_true_eq_false, not_false_eq_true, reduceIte, K_45, F_45_0, hS, (eq_true (by simp (disch := omega) only [nI_lit, nI_add, lt_nI, le_nI, eq_nI] <;> omega) : ((1600 : Int32) ≤ nI n) = True), w, List.length_nil, List.length_cons, Nat.zero_le] <;> first | done | decide | omega | fail) | fail) only [B_81_0, e_aload_n_0, e_iload_n_1, e_call_2, psh_s, psh_n, Option.bind_some, e_iconst_0, e_istore_n_2, clr_i, clr_l, clr_a, clr_n, e_gotow, T_81_7, e_iload_n_2, e_sipush_1600, e_ic_ge, e_ldc2_6385252, e_if_eq, G_600, e_call_1, G_601, G_511, e_bipush_38, e_iinc_2_1, e_goto, T_81_54, B_81_54, R_81, kd_sI, ln_sI, hl_sI, gL_sI, gR_sI, kd_sL, ln_sL, hl_sL, gI_sL, gR_sL, kd_sR, ln_sR, hl_sR, gI_sR, gL_sR, kd_cpI, ln_cpI, hl_cpI, gL_cpI, gR_cpI, gI_cpI, gI_sI, gL_sL, gR_sR, St_sI, St_sL, St_cpI, Nat.reduceEqDiff, Nat.reduceAdd, eq_self, false_and, and_false, true_and, and_true, and_self, if_true, if_false, false_or, or_false, true_or, or_true, not_true_eq_false, not_false_eq_true, reduceIte, K_45, F_45_0, (eq_true (by simp (disch := omega) only [nI_lit, nI_add, lt_nI, le_nI, eq_nI] <;> omega) : ((1600 : Int32) ≤ nI n) = True), w, List.length_nil, List.length_cons, Nat.zero_le]
theorem pcl_2 {x : Txt} {N : List Int64} {o : Nat} {pre : List (Int32 × Int32)} (ho : Oo o) (hp : PrO pre) {f : Nat} (hP : ∀ f', f' ≤ f → Pcl x N o pre f' 3 82 11) : Pcl x N o pre (f + 1) 2 81 12 := by
  intro d q pend c g h μ hd hc hq hm hi hI hG hμ
  have hS := hG.1
  have hx := hG.2.1.1
  have hmu := muN (k := 81) (r := 12) (d := d) rfl (by omega)
  have hms : ms 2 q = 16 * (1602 - qi q) + 7 := rfl
  obtain ⟨h2, s2, R2, m2⟩ := hP f (Nat.le_refl _) d q pend c g h (12 + 8 * (8 - d)) hd hc hq (by
    have : ms 3 q = 16 * (1602 - qi q) + 5 := rfl
    omega) hi hI hG (by omega)
  have hPI := PI_rd (N := N) (pre := pre) hx f 3 d q pend c g (by unfold Lv; omega) hq hd hc (by intro z; omega) hI
  rw [if_neg (show ¬ 10 ≤ 3 by decide)] at hPI
  have hmn := rd_mono (x := x) (N := N) f 3 d q
  have hqr := rd_qi (N := N) hx f 3 d q (by unfold Lv; omega) hi
  rw [rd_lv hq (by decide) (by decide) (by decide), show nxl 2 = 3 from rfl]
  rw [C_81 45 _ μ h (K_45 hS) (by decide) (by rw [hmu]; exact hμ), hmu]
  generalize rd x N f 3 d q = r at R2 hPI hmn hqr ⊢
  rcases R2 with ⟨z, G2⟩ | ⟨z, B2⟩
  · obtain ⟨h3, s3, R3, m3⟩ := lpc_2 ho hp f (fun f' hf' => hP f' (by omega)) d r pend g h2 0 hd z (by
      have : ms 12 r = 16 * (1602 - qi r) + 6 := rfl
      omega) hqr (by omega) (hPI z) G2
    refine ⟨h3, ?_, R3, m2.trans m3⟩
    simp (disch := first | assumption | exact b2i_01 _ | decide | omega | (simp only [kd_sI, ln_sI, hl_sI, gL_sI, gR_sI, kd_sL, ln_sL, hl_sL, gI_sL, gR_sL, kd_sR, ln_sR, hl_sR, gI_sR, gL_sR, kd_cpI, ln_cpI, hl_cpI, gL_cpI, gR_cpI, gI_cpI, gI_sI, gL_sL, gR_sR, St_sI, St_sL, St_cpI, Nat.reduceEqDiff, Nat.reduceAdd, eq_self, false_and, and_false, true_and, and_true, and_self, if_true, if_false, false_or, or_false, true_or, or_true, not_true_eq_false, not_false_eq_true, reduceIte, K_45, F_45_0, hS, s2, List.length_nil, List.length_cons, Nat.zero_le] <;> first | done | decide | omega | fail) | fail) only [B_81_0, e_aload_n_0, e_iload_n_1, e_call_2, psh_s, psh_n, Option.bind_some, e_iconst_0, e_istore_n_2, clr_i, clr_l, clr_a, clr_n, e_gotow, T_81_7, e_iload_n_2, e_sipush_1600, e_ic_ge, e_ldc2_6385252, e_if_eq, G_600, e_call_1, G_601, G_511, e_bipush_38, e_iinc_2_1, e_goto, T_81_54, B_81_54, R_81, kd_sI, ln_sI, hl_sI, gL_sI, gR_sI, kd_sL, ln_sL, hl_sL, gI_sL, gR_sL, kd_sR, ln_sR, hl_sR, gI_sR, gL_sR, kd_cpI, ln_cpI, hl_cpI, gL_cpI, gR_cpI, gI_cpI, gI_sI, gL_sL, gR_sR, St_sI, St_sL, St_cpI, Nat.reduceEqDiff, Nat.reduceAdd, eq_self, false_and, and_false, true_and, and_true, and_self, if_true, if_false, false_or, or_false, true_or, or_true, not_true_eq_false, not_false_eq_true, reduceIte, K_45, F_45_0, s2, List.length_nil, List.length_cons, Nat.zero_le]
    exact s3
  · have wb := s_Re_isWordB B2.1 B2.2.1.2.2.1 6385252 (μ := 12 + 8 * (8 - d)) (by omega)
    refine ⟨h2, ?_, ?_, m2⟩
    · have hS2 := B2.1
      simp (disch := first | assumption | exact b2i_01 _ | decide | omega | (simp only [kd_sI, ln_sI, hl_sI, gL_sI, gR_sI, kd_sL, ln_sL, hl_sL, gI_sL, gR_sL, kd_sR, ln_sR, hl_sR, gI_sR, gL_sR, kd_cpI, ln_cpI, hl_cpI, gL_cpI, gR_cpI, gI_cpI, gI_sI, gL_sL, gR_sR, St_sI, St_sL, St_cpI, Nat.reduceEqDiff, Nat.reduceAdd, eq_self, false_and, and_false, true_and, and_true, and_self, if_true, if_false, false_or, or_false, true_or, or_true, not_true_eq_false, not_false_eq_true, reduceIte, K_45, F_45_0, hS, s2, wb, show ((1600 : Int32) ≤ 0) = False by decide, List.length_nil, List.length_cons, Nat.zero_le] <;> first | done | decide | omega | fail) | fail) only [B_81_0, e_aload_n_0, e_iload_n_1, e_call_2, psh_s, psh_n, Option.bind_some, e_iconst_0, e_istore_n_2, clr_i, clr_l, clr_a, clr_n, e_gotow, T_81_7, B_81_7, e_iload_n_2, e_sipush_1600, e_ic_ge, e_ldc2_6385252, e_if_eq, G_600, e_call_1, G_601, G_511, e_bipush_38, e_iinc_2_1, e_goto, T_81_54, B_81_54, R_81, kd_sI, ln_sI, hl_sI, gL_sI, gR_sI, kd_sL, ln_sL, hl_sL, gI_sL, gR_sL, kd_sR, ln_sR, hl_sR, gI_sR, gL_sR, kd_cpI, ln_cpI, hl_cpI, gL_cpI, gR_cpI, gI_cpI, gI_sI, gL_sL, gR_sR, St_sI, St_sL, St_cpI, Nat.reduceEqDiff, Nat.reduceAdd, eq_self, false_and, and_false, true_and, and_true, and_self, if_true, if_false, false_or, or_false, true_or, or_true, not_true_eq_false, not_false_eq_true, reduceIte, K_45, F_45_0, s2, wb, show ((1600 : Int32) ≤ 0) = False by decide, List.length_nil, List.length_cons, Nat.zero_le]
    · obtain ⟨f', rfl⟩ : ∃ f', f = f' + 1 := ⟨f - 1, by omega⟩
      rw [rd_stop z]
      exact Or.inr ⟨z, B2⟩
/-- the loop of Re.readSum -/
theorem lpc_5 {x : Txt} {N : List Int64} {o : Nat} {pre : List (Int32 × Int32)} (ho : Oo o) (hp : PrO pre) : ∀ f, (∀ f', f' < f → Pcl x N o pre f' 6 86 9) → ∀ d q pend g h n l3, d ≤ 7 → qf q = 0 → ms 15 q < f → qi q ≤ 1600 → n ≤ qi q → PI x N pre pend 0 (g + 1) q → GC x N o pre q h → ∃ h', rn 85 (10 + 8 * (8 - d)) B_85_7 [some (.ref 45), some (.int (nI d)), some (.int (nI n)), l3] [] h = some (none, h') ∧ RdC x N o pre (rd x N f 15 d q) h' ∧ Sm h h' (WF o) := by
  have e10 : ((1 : Int32) = 0) = False := by simp
  intro f
  induction f with
  | zero => intro _ d q pend g h n l3 _ _ hm; omega
  | succ f ih =>
    intro hP d q pend g h n l3 hd hq hm hi hn hI hG
    have hS := hG.1
    have hx := hG.2.1.1
    have w43 := s_Re_isSign hS hG.2.2.1 (tks_5 hx (qi q)) (c := 43) (by decide) (tks_v hx) (μ := 10 + 8 * (8 - d)) (by omega)
    have w43 : cal 89 [.ref 45, .int 43] (10 + 8 * (8 - d)) h = _ := w43
    have w45 := s_Re_isSign hS hG.2.2.1 (tks_5 hx (qi q)) (c := 45) (by decide) (tks_v hx) (μ := 10 + 8 * (8 - d)) (by omega)
    have w45 : cal 89 [.ref 45, .int 45] (10 + 8 * (8 - d)) h = _ := w45
    rw [rd_lp hq (by decide)]
    by_cases c : tg (tks x (qi q)) + 10 = 15
    · rw [if_pos c]
      have c1 : tg (tks x (qi q)) = 5 := by omega
      have c2 := tg_s.2.1.mp c1
      have hk := tg_k (t := tks x (qi q)) (by omega)
      have h16 := tks_lt hx hk.1
      have hv := hG.2.2.1.2.2.2.1 (Or.inr c2.1)
      obtain ⟨h1, s1, G1, m1⟩ := hG.step ho (μ := 10 + 8 * (8 - d)) (by omega)
      have hms : ms 15 q = 16 * (1602 - qi q) + 3 := rfl
      have hf : 0 < f := by omega
      obtain ⟨h2, s2, R2, m2⟩ := hP f (by omega) d (stq q) pend 0 (g + 1) h1 (10 + 8 * (8 - d)) hd (by omega) hq (by
        have : ms 6 (stq q) = 16 * (1602 - (qi q + 1)) + 2 := rfl
        omega) (qi_le hx hk.1) (hI.stq hx hk.1) G1 (by omega)
      have hmn := rd_mono (x := x) (N := N) f 6 d (stq q)
      have hmn : qi q + 1 ≤ qi (rd x N f 6 d (stq q)) := hmn
      have hqr := rd_qi (N := N) hx f 6 d (stq q) (by unfold Lv; omega) (qi_le hx hk.1)
      have hPI := PI_rd (N := N) (pre := pre) hx f 6 d (stq q) pend 0 (g + 1) (by unfold Lv; omega) hq hd (by omega) (by intro z; omega) (hI.stq hx hk.1)
      rw [if_neg (show ¬ 10 ≤ 6 by decide)] at hPI
      have hsg : sg (tks x (qi q)) = nI (tkV (tks x (qi q))) := by unfold sg; rw [if_neg (by omega)]
      obtain ⟨nn, hnn, hop⟩ := op_nI (t := tks x (qi q)) (by omega)
      have hsn := hk.2.2
      rw [hsg] at hop hsn
      rw [show nxl (15 - 10) = 6 from rfl, hsg]
      generalize hr : rd x N f 6 d (stq q) = r at R2 hmn hPI hqr ⊢
      obtain ⟨h3, s3, R3, m3⟩ := R2.addop ho (a := (3, nI (tkV (tks x (qi q))))) (y := nI (tkV (tks x (qi q)))) (n := nn) hop (cdo_op hop) hnn (fun z => (hPI z).room hx hp (Or.inl (by omega))) (μ := 10 + 8 * (8 - d)) (by omega)
      have t3 := ((W43_WF (o := o) m1).trans m2).trans m3
      have o1 : gR h2 45 1 = .ref o := by
        rcases R2 with ⟨_, z⟩ | ⟨_, z⟩
        · exact z.2.2.2.1.2.2.1
        · exact z.2.2
      have run : rn 85 (10 + 8 * (8 - d)) B_85_7 [some (.ref 45), some (.int (nI d)), some (.int (nI n)), l3] [] h = rn 85 (10 + 8 * (8 - d)) B_85_7 [some (.ref 45), some (.int (nI d)), some (.int (nI (n + 1))), some (.int (nI (tkV (tks x (qi q)))))] [] h3 := by
        have hS1 := G1.1
        have hS2 : St h2 := by
          rcases R2 with ⟨_, z⟩ | ⟨_, z⟩ <;> exact z.1
        rcases c2.2 with v | v
        · rw [show isS (tks x (qi q)) 43 = true from isS_k.mpr ⟨c2.1, v⟩, b2i_t] at w43
          rw [show isS (tks x (qi q)) 45 = false from Bool.eq_false_iff.mpr (fun y => by have := (isS_k.mp y).2; omega), b2i_f] at w45
          conv => lhs; rw [B_85_7]
          simp (disch := first | assumption | exact b2i_01 _ | decide | omega | (simp only [kd_sI, ln_sI, hl_sI, gL_sI, gR_sI, kd_sL, ln_sL, hl_sL, gI_sL, gR_sL, kd_sR, ln_sR, hl_sR, gI_sR, gL_sR, kd_cpI, ln_cpI, hl_cpI, gL_cpI, gR_cpI, gI_cpI, gI_sI, gL_sL, gR_sR, St_sI, St_sL, St_cpI, Nat.reduceEqDiff, Nat.reduceAdd, eq_self, false_and, and_false, true_and, and_true, and_self, if_true, if_false, false_or, or_false, true_or, or_true, not_true_eq_false, not_false_eq_true, reduceIte, K_45, F_45_0, K_43, F_43_0, KO_0, KO_1, KO_2, NO_2, KO_3, NO_3, KO_4, KO_5, NO_5, KO_6, NO_6, KO_7, NO_7, KO_8, KO_9, NO_9, KO_10, NO_10, KO_11, NO_11, KO_12, NO_12, KO_13, NO_13, KO_14, NO_14, KO_15, KO_16, NO_16, KO_17, NO_17, KO_18, NO_18, KO_19, NO_19, FO_0_0, FO_0_1, FO_0_2, FO_0_3, FO_0_4, FO_0_5, FO_0_6, FO_0_7, FO_0_8, FO_0_9, FO_0_10, FO_0_11, FO_1_0, FO_4_0, FO_8_0, FO_15_0, FO_15_2, FO_15_3, FO_15_4, Oo_2, Oo_p, hS, (eq_false (by simp (disch := omega) only [nI_lit, nI_add, lt_nI, le_nI, eq_nI] <;> omega) : ((1600 : Int32) ≤ nI n) = False), w43, w45, e10, hv, s1, hS1, s2, hS2, o1, ho, s3, nI_1, List.length_nil, List.length_cons, Nat.zero_le] <;> first | done | decide | omega | fail) | fail) only [B_85_0, e_aload_n_0, e_iload_n_1, e_call_2, psh_s, psh_n, Option.bind_some, e_iconst_0, e_istore_n_2, clr_i, clr_l, clr_a, clr_n, e_gotow, T_85_7, e_iload_n_2, e_sipush_1600, e_ic_ge, e_bipush_43, e_if_ne, e_bipush_45, e_if_eq, T_85_32, B_85_32, G_600, G_904, e_istore_n_3, e_call_1, G_601, G_511, e_iload_n_3, e_iinc_2_1, e_goto, T_85_69, B_85_69, R_85, kd_sI, ln_sI, hl_sI, gL_sI, gR_sI, kd_sL, ln_sL, hl_sL, gI_sL, gR_sL, kd_sR, ln_sR, hl_sR, gI_sR, gL_sR, kd_cpI, ln_cpI, hl_cpI, gL_cpI, gR_cpI, gI_cpI, gI_sI, gL_sL, gR_sR, St_sI, St_sL, St_cpI, Nat.reduceEqDiff, Nat.reduceAdd, eq_self, false_and, and_false, true_and, and_true, and_self, if_true, if_false, false_or, or_false, true_or, or_true, not_true_eq_false, not_false_eq_true, reduceIte, K_45, F_45_0, K_43, F_43_0, KO_0, KO_1, KO_2, NO_2, KO_3, NO_3, KO_4, KO_5, NO_5, KO_6, NO_6, KO_7, NO_7, KO_8, KO_9, NO_9, KO_10, NO_10, KO_11, NO_11, KO_12, NO_12, KO_13, NO_13, KO_14, NO_14, KO_15, KO_16, NO_16, KO_17, NO_17, KO_18, NO_18, KO_19, NO_19, FO_0_0, FO_0_1, FO_0_2, FO_0_3, FO_0_4, FO_0_5, FO_0_6, FO_0_7, FO_0_8, FO_0_9, FO_0_10, FO_0_11, FO_1_0, FO_4_0, FO_8_0, FO_15_0, FO_15_2, FO_15_3, FO_15_4, Oo_2, Oo_p, (eq_false (by simp (disch := omega) only [nI_lit, nI_add, lt_nI, le_nI, eq_nI] <;> omega) : ((1600 : Int32) ≤ nI n) = False), w43, w45, e10, hv, s1, hS1, s2, hS2, o1, ho, s3, nI_1, List.length_nil, List.length_cons, Nat.zero_le]
        · rw [show isS (tks x (qi q)) 43 = false from Bool.eq_false_iff.mpr (fun y => by have := (isS_k.mp y).2; omega), b2i_f] at w43
          rw [show isS (tks x (qi q)) 45 = true from isS_k.mpr ⟨c2.1, v⟩, b2i_t] at w45
          conv => lhs; rw [B_85_7]
          simp (disch := first | assumption | exact b2i_01 _ | decide | omega | (simp only [kd_sI, ln_sI, hl_sI, gL_sI, gR_sI, kd_sL, ln_sL, hl_sL, gI_sL, gR_sL, kd_sR, ln_sR, hl_sR, gI_sR, gL_sR, kd_cpI, ln_cpI, hl_cpI, gL_cpI, gR_cpI, gI_cpI, gI_sI, gL_sL, gR_sR, St_sI, St_sL, St_cpI, Nat.reduceEqDiff, Nat.reduceAdd, eq_self, false_and, and_false, true_and, and_true, and_self, if_true, if_false, false_or, or_false, true_or, or_true, not_true_eq_false, not_false_eq_true, reduceIte, K_45, F_45_0, K_43, F_43_0, KO_0, KO_1, KO_2, NO_2, KO_3, NO_3, KO_4, KO_5, NO_5, KO_6, NO_6, KO_7, NO_7, KO_8, KO_9, NO_9, KO_10, NO_10, KO_11, NO_11, KO_12, NO_12, KO_13, NO_13, KO_14, NO_14, KO_15, KO_16, NO_16, KO_17, NO_17, KO_18, NO_18, KO_19, NO_19, FO_0_0, FO_0_1, FO_0_2, FO_0_3, FO_0_4, FO_0_5, FO_0_6, FO_0_7, FO_0_8, FO_0_9, FO_0_10, FO_0_11, FO_1_0, FO_4_0, FO_8_0, FO_15_0, FO_15_2, FO_15_3, FO_15_4, Oo_2, Oo_p, hS, (eq_false (by simp (disch := omega) only [nI_lit, nI_add, lt_nI, le_nI, eq_nI] <;> omega) : ((1600 : Int32) ≤ nI n) = False), w43, w45, e10, hv, s1, hS1, s2, hS2, o1, ho, s3, nI_1, List.length_nil, List.length_cons, Nat.zero_le] <;> first | done | decide | omega | fail) | fail) only [B_85_0, e_aload_n_0, e_iload_n_1, e_call_2, psh_s, psh_n, Option.bind_some, e_iconst_0, e_istore_n_2, clr_i, clr_l, clr_a, clr_n, e_gotow, T_85_7, e_iload_n_2, e_sipush_1600, e_ic_ge, e_bipush_43, e_if_ne, e_bipush_45, e_if_eq, T_85_32, B_85_32, G_600, G_904, e_istore_n_3, e_call_1, G_601, G_511, e_iload_n_3, e_iinc_2_1, e_goto, T_85_69, B_85_69, R_85, kd_sI, ln_sI, hl_sI, gL_sI, gR_sI, kd_sL, ln_sL, hl_sL, gI_sL, gR_sL, kd_sR, ln_sR, hl_sR, gI_sR, gL_sR, kd_cpI, ln_cpI, hl_cpI, gL_cpI, gR_cpI, gI_cpI, gI_sI, gL_sL, gR_sR, St_sI, St_sL, St_cpI, Nat.reduceEqDiff, Nat.reduceAdd, eq_self, false_and, and_false, true_and, and_true, and_self, if_true, if_false, false_or, or_false, true_or, or_true, not_true_eq_false, not_false_eq_true, reduceIte, K_45, F_45_0, K_43, F_43_0, KO_0, KO_1, KO_2, NO_2, KO_3, NO_3, KO_4, KO_5, NO_5, KO_6, NO_6, KO_7, NO_7, KO_8, KO_9, NO_9, KO_10, NO_10, KO_11, NO_11, KO_12, NO_12, KO_13, NO_13, KO_14, NO_14, KO_15, KO_16, NO_16, KO_17, NO_17, KO_18, NO_18, KO_19, NO_19, FO_0_0, FO_0_1, FO_0_2, FO_0_3, FO_0_4, FO_0_5, FO_0_6, FO_0_7, FO_0_8, FO_0_9, FO_0_10, FO_0_11, FO_1_0, FO_4_0, FO_8_0, FO_15_0, FO_15_2, FO_15_3, FO_15_4, Oo_2, Oo_p, (eq_false (by simp (disch := omega) only [nI_lit, nI_add, lt_nI, le_nI, eq_nI] <;> omega) : ((1600 : Int32) ≤ nI n) = False), w43, w45, e10, hv, s1, hS1, s2, hS2, o1, ho, s3, nI_1, List.length_nil, List.length_cons, Nat.zero_le]
      rw [run]
      rcases R3 with ⟨z, G3⟩ | ⟨z, B3⟩
      · obtain ⟨h4, s4, R4, m4⟩ := ih (fun f' hf' => hP f' (by omega)) d (emt (3, nI (tkV (tks x (qi q)))) r) pend g h3 (n + 1) (some (.int (nI (tkV (tks x (qi q)))))) hd z (by
          have : ms 15 (emt (3, nI (tkV (tks x (qi q)))) r) = 16 * (1602 - qi (emt (3, nI (tkV (tks x (qi q)))) r)) + 3 := rfl
          rw [emt_i] at this
          omega) (by rw [emt_i]; exact hqr) (by rw [emt_i]; omega) (by
          rw [emt_f] at z
          exact (hPI z).bin hsn z) G3
        exact ⟨h4, s4, R4, t3.trans m4⟩
      · refine ⟨h3, ?_, ?_, t3⟩
        · have hS := B3.1
          have wb43 := s_Re_isSignB B3.1 B3.2.1.2.2.1 43 (μ := 10 + 8 * (8 - d)) (by omega)
          have wb45 := s_Re_isSignB B3.1 B3.2.1.2.2.1 45 (μ := 10 + 8 * (8 - d)) (by omega)
          conv => lhs; rw [B_85_7]
          by_cases cn : n + 1 < 1600
          · simp (disch := first | assumption | exact b2i_01 _ | decide | omega | (simp only [kd_sI, ln_sI, hl_sI, gL_sI, gR_sI, kd_sL, ln_sL, hl_sL, gI_sL, gR_sL, kd_sR, ln_sR, hl_sR, gI_sR, gL_sR, kd_cpI, ln_cpI, hl_cpI, gL_cpI, gR_cpI, gI_cpI, gI_sI, gL_sL, gR_sR, St_sI, St_sL, St_cpI, Nat.reduceEqDiff, Nat.reduceAdd, eq_self, false_and, and_false, true_and, and_true, and_self, if_true, if_false, false_or, or_false, true_or, or_true, not_true_eq_false, not_false_eq_true, reduceIte, K_45, F_45_0, hS, (eq_false (by simp (disch := omega) only [nI_lit, nI_add, lt_nI, le_nI, eq_nI] <;> omega) : ((1600 : Int32) ≤ nI (n + 1)) = False), wb43, wb45, List.length_nil, List.length_cons, Nat.zero_le] <;> first | done | decide | omega | fail) | fail) only [B_85_0, e_aload_n_0, e_iload_n_1, e_call_2, psh_s, psh_n, Option.bind_some, e_iconst_0, e_istore_n_2, clr_i, clr_l, clr_a, clr_n, e_gotow, T_85_7, e_iload_n_2, e_sipush_1600, e_ic_ge, e_bipush_43, e_if_ne, e_bipush_45, e_if_eq, T_85_32, B_85_32, G_600, G_904, e_istore_n_3, e_call_1, G_601, G_511, e_iload_n_3, e_iinc_2_1, e_goto, T_85_69, B_85_69, R_85, kd_sI, ln_sI, hl_sI, gL_sI, gR_sI, kd_sL, ln_sL, hl_sL, gI_sL, gR_sL, kd_sR, ln_sR, hl_sR, gI_sR, gL_sR, kd_cpI, ln_cpI, hl_cpI, gL_cpI, gR_cpI, gI_cpI, gI_sI, gL_sL, gR_sR, St_sI, St_sL, St_cpI, Nat.reduceEqDiff, Nat.reduceAdd, eq_self, false_and, and_false, true_and, and_true, and_self, if_true, if_false, false_or, or_false, true_or, or_true, not_true_eq_false, not_false_eq_true, reduceIte, K_45, F_45_0, (eq_false (by simp (disch := omega) only [nI_lit, nI_add, lt_nI, le_nI, eq_nI] <;> omega) : ((1600 : Int32) ≤ nI (n + 1)) = False), wb43, wb45, List.length_nil, List.length_cons, Nat.zero_le]
          · simp (disch := first | assumption | exact b2i_01 _ | decide | omega | (simp only [kd_sI, ln_sI, hl_sI, gL_sI, gR_sI, kd_sL, ln_sL, hl_sL, gI_sL, gR_sL, kd_sR, ln_sR, hl_sR, gI_sR, gL_sR, kd_cpI, ln_cpI, hl_cpI, gL_cpI, gR_cpI, gI_cpI, gI_sI, gL_sL, gR_sR, St_sI, St_sL, St_cpI, Nat.reduceEqDiff, Nat.reduceAdd, eq_self, false_and, and_false, true_and, and_true, and_self, if_true, if_false, false_or, or_false, true_or, or_true, not_true_eq_false, not_false_eq_true, reduceIte, K_45, F_45_0, hS, (eq_true (by simp (disch := omega) only [nI_lit, nI_add, lt_nI, le_nI, eq_nI] <;> omega) : ((1600 : Int32) ≤ nI (n + 1)) = True), List.length_nil, List.length_cons, Nat.zero_le] <;> first | done | decide | omega | fail) | fail) only [B_85_0, e_aload_n_0, e_iload_n_1, e_call_2, psh_s, psh_n, Option.bind_some, e_iconst_0, e_istore_n_2, clr_i, clr_l, clr_a, clr_n, e_gotow, T_85_7, e_iload_n_2, e_sipush_1600, e_ic_ge, e_bipush_43, e_if_ne, e_bipush_45, e_if_eq, T_85_32, B_85_32, G_600, G_904, e_istore_n_3, e_call_1, G_601, G_511, e_iload_n_3, e_iinc_2_1, e_goto, T_85_69, B_85_69, R_85, kd_sI, ln_sI, hl_sI, gL_sI, gR_sI, kd_sL, ln_sL, hl_sL, gI_sL, gR_sL, kd_sR, ln_sR, hl_sR, gI_sR, gL_sR, kd_cpI, ln_cpI, hl_cpI, gL_cpI, gR_cpI, gI_cpI, gI_sI, gL_sL, gR_sR, St_sI, St_sL, St_cpI, Nat.reduceEqDiff, Nat.reduceAdd, eq_self, false_and, and_false, true_and, and_true, and_self, if_true, if_false, false_or, or_false, true_or, or_true, not_true_eq_false, not_false_eq_true, reduceIte, K_45, F_45_0, (eq_true (by simp (disch := omega) only [nI_lit, nI_add, lt_nI, le_nI, eq_nI] <;> omega) : ((1600 : Int32) ≤ nI (n + 1)) = True), List.length_nil, List.length_cons, Nat.zero_le]
        · obtain ⟨f', rfl⟩ : ∃ f', f = f' + 1 := ⟨f - 1, by omega⟩
          rw [rd_stop z]
          exact Or.inr ⟨z, B3⟩
    · rw [if_neg c]
      refine ⟨h, ?_, Or.inl ⟨hq, hG⟩, Sm.rf h _⟩
      have c3 : ¬ tg (tks x (qi q)) = 5 := by omega
      rw [show isS (tks x (qi q)) 43 = false from Bool.eq_false_iff.mpr (fun y => c3 (tg_s.2.1.mpr ⟨(isS_k.mp y).1, by have := (isS_k.mp y).2; omega⟩)), b2i_f] at w43
      rw [show isS (tks x (qi q)) 45 = false from Bool.eq_false_iff.mpr (fun y => c3 (tg_s.2.1.mpr ⟨(isS_k.mp y).1, by have := (isS_k.mp y).2; omega⟩)), b2i_f] at w45
      conv => lhs; rw [B_85_7]
      by_cases cn : n < 1600
      · simp (disch := first | assumption | exact b2i_01 _ | decide | omega | (simp only [kd_sI, ln_sI, hl_sI, gL_sI, gR_sI, kd_sL, ln_sL, hl_sL, gI_sL, gR_sL, kd_sR, ln_sR, hl_sR, gI_sR, gL_sR, kd_cpI, ln_cpI, hl_cpI, gL_cpI, gR_cpI, gI_cpI, gI_sI, gL_sL, gR_sR, St_sI, St_sL, St_cpI, Nat.reduceEqDiff, Nat.reduceAdd, eq_self, false_and, and_false, true_and, and_true, and_self, if_true, if_false, false_or, or_false, true_or, or_true, not_true_eq_false, not_false_eq_true, reduceIte, K_45, F_45_0, hS, (eq_false (by simp (disch := omega) only [nI_lit, nI_add, lt_nI, le_nI, eq_nI] <;> omega) : ((1600 : Int32) ≤ nI n) = False), w43, w45, List.length_nil, List.length_cons, Nat.zero_le] <;> first | done | decide | omega | fail) | fail) only [B_85_0, e_aload_n_0, e_iload_n_1, e_call_2, psh_s, psh_n, Option.bind_some, e_iconst_0, e_istore_n_2, clr_i, clr_l, clr_a, clr_n, e_gotow, T_85_7, e_iload_n_2, e_sipush_1600, e_ic_ge, e_bipush_43, e_if_ne, e_bipush_45, e_if_eq, T_85_32, B_85_32, G_600, G_904, e_istore_n_3, e_call_1, G_601, G_511, e_iload_n_3, e_iinc_2_1, e_goto, T_85_69, B_85_69, R_85, kd_sI, ln_sI, hl_sI, gL_sI, gR_sI, kd_sL, ln_sL, hl_sL, gI_sL, gR_sL, kd_sR, ln_sR, hl_sR, gI_sR, gL_sR, kd_cpI, ln_cpI, hl_cpI, gL_cpI, gR_cpI, gI_cpI, gI_sI, gL_sL, gR_sR, St_sI, St_sL, St_cpI, Nat.reduceEqDiff, Nat.reduceAdd, eq_self, false_and, and_false, true_and, and_true, and_self, if_true, if_false, false_or, or_false, true_or, or_true, not_true_eq_false, not_false_eq_true, reduceIte, K_45, F_45_0, (eq_false (by simp (disch := omega) only [nI_lit, nI_add, lt_nI, le_nI, eq_nI] <;> omega) : ((1600 : Int32) ≤ nI n) = False), w43, w45, List.length_nil, List.length_cons, Nat.zero_le]
      · simp (disch := first | assumption | exact b2i_01 _ | decide | omega | (simp only [kd_sI, ln_sI, hl_sI, gL_sI, gR_sI, kd_sL, ln_sL, hl_sL, gI_sL, gR_sL, kd_sR, ln_sR, hl_sR, gI_sR, gL_sR, kd_cpI, ln_cpI, hl_cpI, gL_cpI, gR_cpI, gI_cpI, gI_sI, gL_sL, gR_sR, St_sI, St_sL, St_cpI, Nat.reduceEqDiff, Nat.reduceAdd, eq_self, false_and, and_false, true_and, and_true, and_self, if_true, if_false, false_or, or_false, true_or, or_true, not_true_eq_false, not_false_eq_true, reduceIte, K_45, F_45_0, hS, (eq_true (by simp (disch := omega) only [nI_lit, nI_add, lt_nI, le_nI, eq_nI] <;> omega) : ((1600 : Int32) ≤ nI n) = True), List.length_nil, List.length_cons, Nat.zero_le] <;> first | done | decide | omega | fail) | fail) only [B_85_0, e_aload_n_0, e_iload_n_1, e_call_2, psh_s, psh_n, Option.bind_some, e_iconst_0, e_istore_n_2, clr_i, clr_l, clr_a, clr_n, e_gotow, T_85_7, e_iload_n_2, e_sipush_1600, e_ic_ge, e_bipush_43, e_if_ne, e_bipush_45, e_if_eq, T_85_32, B_85_32, G_600, G_904, e_istore_n_3, e_call_1, G_601, G_511, e_iload_n_3, e_iinc_2_1, e_goto, T_85_69, B_85_69, R_85, kd_sI, ln_sI, hl_sI, gL_sI, gR_sI, kd_sL, ln_sL, hl_sL, gI_sL, gR_sL, kd_sR, ln_sR, hl_sR, gI_sR, gL_sR, kd_cpI, ln_cpI, hl_cpI, gL_cpI, gR_cpI, gI_cpI, gI_sI, gL_sL, gR_sR, St_sI, St_sL, St_cpI, Nat.reduceEqDiff, Nat.reduceAdd, eq_self, false_and, and_false, true_and, and_true, and_self, if_true, if_false, false_or, or_false, true_or, or_true, not_true_eq_false, not_false_eq_true, reduceIte, K_45, F_45_0, (eq_true (by simp (disch := omega) only [nI_lit, nI_add, lt_nI, le_nI, eq_nI] <;> omega) : ((1600 : Int32) ≤ nI n) = True), List.length_nil, List.length_cons, Nat.zero_le]
theorem pcl_5 {x : Txt} {N : List Int64} {o : Nat} {pre : List (Int32 × Int32)} (ho : Oo o) (hp : PrO pre) {f : Nat} (hP : ∀ f', f' ≤ f → Pcl x N o pre f' 6 86 9) : Pcl x N o pre (f + 1) 5 85 10 := by
  intro d q pend c g h μ hd hc hq hm hi hI hG hμ
  have hS := hG.1
  have hx := hG.2.1.1
  have hmu := muN (k := 85) (r := 10) (d := d) rfl (by omega)
  have hms : ms 5 q = 16 * (1602 - qi q) + 4 := rfl
  obtain ⟨h2, s2, R2, m2⟩ := hP f (Nat.le_refl _) d q pend c g h (10 + 8 * (8 - d)) hd hc hq (by
    have : ms 6 q = 16 * (1602 - qi q) + 2 := rfl
    omega) hi hI hG (by omega)
  have hPI := PI_rd (N := N) (pre := pre) hx f 6 d q pend c g (by unfold Lv; omega) hq hd hc (by intro z; omega) hI
  rw [if_neg (show ¬ 10 ≤ 6 by decide)] at hPI
  have hmn := rd_mono (x := x) (N := N) f 6 d q
  have hqr := rd_qi (N := N) hx f 6 d q (by unfold Lv; omega) hi
  rw [rd_lv hq (by decide) (by decide) (by decide), show nxl 5 = 6 from rfl]
  rw [C_85 45 _ μ h (K_45 hS) (by decide) (by rw [hmu]; exact hμ), hmu]
  generalize rd x N f 6 d q = r at R2 hPI hmn hqr ⊢
  rcases R2 with ⟨z, G2⟩ | ⟨z, B2⟩
  · obtain ⟨h3, s3, R3, m3⟩ := lpc_5 ho hp f (fun f' hf' => hP f' (by omega)) d r pend g h2 0 none hd z (by
      have : ms 15 r = 16 * (1602 - qi r) + 3 := rfl
      omega) hqr (by omega) (hPI z) G2
    refine ⟨h3, ?_, R3, m2.trans m3⟩
    simp (disch := first | assumption | exact b2i_01 _ | decide | omega | (simp only [kd_sI, ln_sI, hl_sI, gL_sI, gR_sI, kd_sL, ln_sL, hl_sL, gI_sL, gR_sL, kd_sR, ln_sR, hl_sR, gI_sR, gL_sR, kd_cpI, ln_cpI, hl_cpI, gL_cpI, gR_cpI, gI_cpI, gI_sI, gL_sL, gR_sR, St_sI, St_sL, St_cpI, Nat.reduceEqDiff, Nat.reduceAdd, eq_self, false_and, and_false, true_and, and_true, and_self, if_true, if_false, false_or, or_false, true_or, or_true, not_true_eq_false, not_false_eq_true, reduceIte, K_45, F_45_0, hS, s2, List.length_nil, List.length_cons, Nat.zero_le] <;> first | done | decide | omega | fail) | fail) only [B_85_0, e_aload_n_0, e_iload_n_1, e_call_2, psh_s, psh_n, Option.bind_some, e_iconst_0, e_istore_n_2, clr_i, clr_l, clr_a, clr_n, e_gotow, T_85_7, e_iload_n_2, e_sipush_1600, e_ic_ge, e_bipush_43, e_if_ne, e_bipush_45, e_if_eq, T_85_32, B_85_32, G_600, G_904, e_istore_n_3, e_call_1, G_601, G_511, e_iload_n_3, e_iinc_2_1, e_goto, T_85_69, B_85_69, R_85, kd_sI, ln_sI, hl_sI, gL_sI, gR_sI, kd_sL, ln_sL, hl_sL, gI_sL, gR_sL, kd_sR, ln_sR, hl_sR, gI_sR, gL_sR, kd_cpI, ln_cpI, hl_cpI, gL_cpI, gR_cpI, gI_cpI, gI_sI, gL_sL, gR_sR, St_sI, St_sL, St_cpI, Nat.reduceEqDiff, Nat.reduceAdd, eq_self, false_and, and_false, true_and, and_true, and_self, if_true, if_false, false_or, or_false, true_or, or_true, not_true_eq_false, not_false_eq_true, reduceIte, K_45, F_45_0, s2, List.length_nil, List.length_cons, Nat.zero_le]
    exact s3
  · refine ⟨h2, ?_, ?_, m2⟩
    · have hS2 := B2.1
      have wb43 := s_Re_isSignB B2.1 B2.2.1.2.2.1 43 (μ := 10 + 8 * (8 - d)) (by omega)
      have wb45 := s_Re_isSignB B2.1 B2.2.1.2.2.1 45 (μ := 10 + 8 * (8 - d)) (by omega)
      simp (disch := first | assumption | exact b2i_01 _ | decide | omega | (simp only [kd_sI, ln_sI, hl_sI, gL_sI, gR_sI, kd_sL, ln_sL, hl_sL, gI_sL, gR_sL, kd_sR, ln_sR, hl_sR, gI_sR, gL_sR, kd_cpI, ln_cpI, hl_cpI, gL_cpI, gR_cpI, gI_cpI, gI_sI, gL_sL, gR_sR, St_sI, St_sL, St_cpI, Nat.reduceEqDiff, Nat.reduceAdd, eq_self, false_and, and_false, true_and, and_true, and_self, if_true, if_false, false_or, or_false, true_or, or_true, not_true_eq_false, not_false_eq_true, reduceIte, K_45, F_45_0, hS, s2, wb43, wb45, show ((1600 : Int32) ≤ 0) = False by decide, List.length_nil, List.length_cons, Nat.zero_le] <;> first | done | decide | omega | fail) | fail) only [B_85_0, e_aload_n_0, e_iload_n_1, e_call_2, psh_s, psh_n, Option.bind_some, e_iconst_0, e_istore_n_2, clr_i, clr_l, clr_a, clr_n, e_gotow, T_85_7, B_85_7, e_iload_n_2, e_sipush_1600, e_ic_ge, e_bipush_43, e_if_ne, e_bipush_45, e_if_eq, T_85_32, B_85_32, G_600, G_904, e_istore_n_3, e_call_1, G_601, G_511, e_iload_n_3, e_iinc_2_1, e_goto, T_85_69, B_85_69, R_85, kd_sI, ln_sI, hl_sI, gL_sI, gR_sI, kd_sL, ln_sL, hl_sL, gI_sL, gR_sL, kd_sR, ln_sR, hl_sR, gI_sR, gL_sR, kd_cpI, ln_cpI, hl_cpI, gL_cpI, gR_cpI, gI_cpI, gI_sI, gL_sL, gR_sR, St_sI, St_sL, St_cpI, Nat.reduceEqDiff, Nat.reduceAdd, eq_self, false_and, and_false, true_and, and_true, and_self, if_true, if_false, false_or, or_false, true_or, or_true, not_true_eq_false, not_false_eq_true, reduceIte, K_45, F_45_0, s2, wb43, wb45, show ((1600 : Int32) ≤ 0) = False by decide, List.length_nil, List.length_cons, Nat.zero_le]
    · obtain ⟨f', rfl⟩ : ∃ f', f = f' + 1 := ⟨f - 1, by omega⟩
      rw [rd_stop z]
      exact Or.inr ⟨z, B2⟩
/-- the loop of Re.readTerm -/
theorem lpc_6 {x : Txt} {N : List Int64} {o : Nat} {pre : List (Int32 × Int32)} (ho : Oo o) (hp : PrO pre) : ∀ f, (∀ f', f' < f → Pcl x N o pre f' 7 87 8) → ∀ d q pend g h n l3, d ≤ 7 → qf q = 0 → ms 16 q < f → qi q ≤ 1600 → n ≤ qi q → PI x N pre pend 0 (g + 1) q → GC x N o pre q h → ∃ h', rn 86 (9 + 8 * (8 - d)) B_86_7 [some (.ref 45), some (.int (nI d)), some (.int (nI n)), l3] [] h = some (none, h') ∧ RdC x N o pre (rd x N f 16 d q) h' ∧ Sm h h' (WF o) := by
  have e10 : ((1 : Int32) = 0) = False := by simp
  intro f
  induction f with
  | zero => intro _ d q pend g h n l3 _ _ hm; omega
  | succ f ih =>
    intro hP d q pend g h n l3 hd hq hm hi hn hI hG
    have hS := hG.1
    have hx := hG.2.1.1
    have w42 := s_Re_isSign hS hG.2.2.1 (tks_5 hx (qi q)) (c := 42) (by decide) (tks_v hx) (μ := 9 + 8 * (8 - d)) (by omega)
    have w42 : cal 89 [.ref 45, .int 42] (9 + 8 * (8 - d)) h = _ := w42
    have w47 := s_Re_isSign hS hG.2.2.1 (tks_5 hx (qi q)) (c := 47) (by decide) (tks_v hx) (μ := 9 + 8 * (8 - d)) (by omega)
    have w47 : cal 89 [.ref 45, .int 47] (9 + 8 * (8 - d)) h = _ := w47
    have w37 := s_Re_isSign hS hG.2.2.1 (tks_5 hx (qi q)) (c := 37) (by decide) (tks_v hx) (μ := 9 + 8 * (8 - d)) (by omega)
    have w37 : cal 89 [.ref 45, .int 37] (9 + 8 * (8 - d)) h = _ := w37
    rw [rd_lp hq (by decide)]
    by_cases c : tg (tks x (qi q)) + 10 = 16
    · rw [if_pos c]
      have c1 : tg (tks x (qi q)) = 6 := by omega
      have c2 := tg_s.2.2.mp c1
      have hk := tg_k (t := tks x (qi q)) (by omega)
      have h16 := tks_lt hx hk.1
      have hv := hG.2.2.1.2.2.2.1 (Or.inr c2.1)
      obtain ⟨h1, s1, G1, m1⟩ := hG.step ho (μ := 9 + 8 * (8 - d)) (by omega)
      have hms : ms 16 q = 16 * (1602 - qi q) + 1 := rfl
      have hf : 0 < f := by omega
      obtain ⟨h2, s2, R2, m2⟩ := hP f (by omega) d (stq q) pend 0 (g + 1) h1 (9 + 8 * (8 - d)) hd (by omega) hq (by
        have : ms 7 (stq q) = 16 * (1602 - (qi q + 1)) + 0 := rfl
        omega) (qi_le hx hk.1) (hI.stq hx hk.1) G1 (by omega)
      have hmn := rd_mono (x := x) (N := N) f 7 d (stq q)
      have hmn : qi q + 1 ≤ qi (rd x N f 7 d (stq q)) := hmn
      have hqr := rd_qi (N := N) hx f 7 d (stq q) (by unfold Lv; omega) (qi_le hx hk.1)
      have hPI := PI_rd (N := N) (pre := pre) hx f 7 d (stq q) pend 0 (g + 1) (by unfold Lv; omega) hq hd (by omega) (by intro z; omega) (hI.stq hx hk.1)
      rw [if_neg (show ¬ 10 ≤ 7 by decide)] at hPI
      have hsg : sg (tks x (qi q)) = nI (tkV (tks x (qi q))) := by unfold sg; rw [if_neg (by omega)]
      obtain ⟨nn, hnn, hop⟩ := op_nI (t := tks x (qi q)) (by omega)
      have hsn := hk.2.2
      rw [hsg] at hop hsn
      rw [show nxl (16 - 10) = 7 from rfl, hsg]
      generalize hr : rd x N f 7 d (stq q) = r at R2 hmn hPI hqr ⊢
      obtain ⟨h3, s3, R3, m3⟩ := R2.addop ho (a := (3, nI (tkV (tks x (qi q))))) (y := nI (tkV (tks x (qi q)))) (n := nn) hop (cdo_op hop) hnn (fun z => (hPI z).room hx hp (Or.inl (by omega))) (μ := 9 + 8 * (8 - d)) (by omega)
      have t3 := ((W43_WF (o := o) m1).trans m2).trans m3
      have o1 : gR h2 45 1 = .ref o := by
        rcases R2 with ⟨_, z⟩ | ⟨_, z⟩
        · exact z.2.2.2.1.2.2.1
        · exact z.2.2
      have run : rn 86 (9 + 8 * (8 - d)) B_86_7 [some (.ref 45), some (.int (nI d)), some (.int (nI n)), l3] [] h = rn 86 (9 + 8 * (8 - d)) B_86_7 [some (.ref 45), some (.int (nI d)), some (.int (nI (n + 1))), some (.int (nI (tkV (tks x (qi q)))))] [] h3 := by
        have hS1 := G1.1
        have hS2 : St h2 := by
          rcases R2 with ⟨_, z⟩ | ⟨_, z⟩ <;> exact z.1
        rcases c2.2 with v | v | v
        · rw [show isS (tks x (qi q)) 42 = true from isS_k.mpr ⟨c2.1, v⟩, b2i_t] at w42
          rw [show isS (tks x (qi q)) 47 = false from Bool.eq_false_iff.mpr (fun y => by have := (isS_k.mp y).2; omega), b2i_f] at w47
          rw [show isS (tks x (qi q)) 37 = false from Bool.eq_false_iff.mpr (fun y => by have := (isS_k.mp y).2; omega), b2i_f] at w37
          conv => lhs; rw [B_86_7]
          simp (disch := first | assumption | exact b2i_01 _ | decide | omega | (simp only [kd_sI, ln_sI, hl_sI, gL_sI, gR_sI, kd_sL, ln_sL, hl_sL, gI_sL, gR_sL, kd_sR, ln_sR, hl_sR, gI_sR, gL_sR, kd_cpI, ln_cpI, hl_cpI, gL_cpI, gR_cpI, gI_cpI, gI_sI, gL_sL, gR_sR, St_sI, St_sL, St_cpI, Nat.reduceEqDiff, Nat.reduceAdd, eq_self, false_and, and_false, true_and, and_true, and_self, if_true, if_false, false_or, or_false, true_or, or_true, not_true_eq_false, not_false_eq_true, reduceIte, K_45, F_45_0, K_43, F_43_0, KO_0, KO_1, KO_2, NO_2, KO_3, NO_3, KO_4, KO_5, NO_5, KO_6, NO_6, KO_7, NO_7, KO_8, KO_9, NO_9, KO_10, NO_10, KO_11, NO_11, KO_12, NO_12, KO_13, NO_13, KO_14, NO_14, KO_15, KO_16, NO_16, KO_17, NO_17, KO_18, NO_18, KO_19, NO_19, FO_0_0, FO_0_1, FO_0_2, FO_0_3, FO_0_4, FO_0_5, FO_0_6, FO_0_7, FO_0_8, FO_0_9, FO_0_10, FO_0_11, FO_1_0, FO_4_0, FO_8_0, FO_15_0, FO_15_2, FO_15_3, FO_15_4, Oo_2, Oo_p, hS, (eq_false (by simp (disch := omega) only [nI_lit, nI_add, lt_nI, le_nI, eq_nI] <;> omega) : ((1600 : Int32) ≤ nI n) = False), w42, w47, w37, e10, hv, s1, hS1, s2, hS2, o1, ho, s3, nI_1, List.length_nil, List.length_cons, Nat.zero_le] <;> first | done | decide | omega | fail) | fail) only [B_86_0, e_aload_n_0, e_iload_n_1, e_call_2, psh_s, psh_n, Option.bind_some, e_iconst_0, e_istore_n_2, clr_i, clr_l, clr_a, clr_n, e_gotow, T_86_7, e_iload_n_2, e_sipush_1600, e_ic_ge, e_bipush_42, e_if_ne, e_bipush_47, e_bipush_37, e_if_eq, T_86_41, B_86_41, G_600, G_904, e_istore_n_3, e_call_1, G_601, G_511, e_iload_n_3, e_iinc_2_1, e_goto, T_86_78, B_86_78, R_86, kd_sI, ln_sI, hl_sI, gL_sI, gR_sI, kd_sL, ln_sL, hl_sL, gI_sL, gR_sL, kd_sR, ln_sR, hl_sR, gI_sR, gL_sR, kd_cpI, ln_cpI, hl_cpI, gL_cpI, gR_cpI, gI_cpI, gI_sI, gL_sL, gR_sR, St_sI, St_sL, St_cpI, Nat.reduceEqDiff, Nat.reduceAdd, eq_self, false_and, and_false, true_and, and_true, and_self, if_true, if_false, false_or, or_false, true_or, or_true, not_true_eq_false, not_false_eq_true, reduceIte, K_45, F_45_0, K_43, F_43_0, KO_0, KO_1, KO_2, NO_2, KO_3, NO_3, KO_4, KO_5, NO_5, KO_6, NO_6, KO_7, NO_7, KO_8, KO_9, NO_9, KO_10, NO_10, KO_11, NO_11, KO_12, NO_12, KO_13, NO_13, KO_14, NO_14, KO_15, KO_16, NO_16, KO_17, NO_17, KO_18, NO_18, KO_19, NO_19, FO_0_0, FO_0_1, FO_0_2, FO_0_3, FO_0_4, FO_0_5, FO_0_6, FO_0_7, FO_0_8, FO_0_9, FO_0_10, FO_0_11, FO_1_0, FO_4_0, FO_8_0, FO_15_0, FO_15_2, FO_15_3, FO_15_4, Oo_2, Oo_p, (eq_false (by simp (disch := omega) only [nI_lit, nI_add, lt_nI, le_nI, eq_nI] <;> omega) : ((1600 : Int32) ≤ nI n) = False), w42, w47, w37, e10, hv, s1, hS1, s2, hS2, o1, ho, s3, nI_1, List.length_nil, List.length_cons, Nat.zero_le]
        · rw [show isS (tks x (qi q)) 42 = false from Bool.eq_false_iff.mpr (fun y => by have := (isS_k.mp y).2; omega), b2i_f] at w42
          rw [show isS (tks x (qi q)) 47 = true from isS_k.mpr ⟨c2.1, v⟩, b2i_t] at w47
          rw [show isS (tks x (qi q)) 37 = false from Bool.eq_false_iff.mpr (fun y => by have := (isS_k.mp y).2; omega), b2i_f] at w37
          conv => lhs; rw [B_86_7]
          simp (disch := first | assumption | exact b2i_01 _ | decide | omega | (simp only [kd_sI, ln_sI, hl_sI, gL_sI, gR_sI, kd_sL, ln_sL, hl_sL, gI_sL, gR_sL, kd_sR, ln_sR, hl_sR, gI_sR, gL_sR, kd_cpI, ln_cpI, hl_cpI, gL_cpI, gR_cpI, gI_cpI, gI_sI, gL_sL, gR_sR, St_sI, St_sL, St_cpI, Nat.reduceEqDiff, Nat.reduceAdd, eq_self, false_and, and_false, true_and, and_true, and_self, if_true, if_false, false_or, or_false, true_or, or_true, not_true_eq_false, not_false_eq_true, reduceIte, K_45, F_45_0, K_43, F_43_0, KO_0, KO_1, KO_2, NO_2, KO_3, NO_3, KO_4, KO_5, NO_5, KO_6, NO_6, KO_7, NO_7, KO_8, KO_9, NO_9, KO_10, NO_10, KO_11, NO_11, KO_12, NO_12, KO_13, NO_13, KO_14, NO_14, KO_15, KO_16, NO_16, KO_17, NO_17, KO_18, NO_18, KO_19, NO_19, FO_0_0, FO_0_1, FO_0_2, FO_0_3, FO_0_4, FO_0_5, FO_0_6, FO_0_7, FO_0_8, FO_0_9, FO_0_10, FO_0_11, FO_1_0, FO_4_0, FO_8_0, FO_15_0, FO_15_2, FO_15_3, FO_15_4, Oo_2, Oo_p, hS, (eq_false (by simp (disch := omega) only [nI_lit, nI_add, lt_nI, le_nI, eq_nI] <;> omega) : ((1600 : Int32) ≤ nI n) = False), w42, w47, w37, e10, hv, s1, hS1, s2, hS2, o1, ho, s3, nI_1, List.length_nil, List.length_cons, Nat.zero_le] <;> first | done | decide | omega | fail) | fail) only [B_86_0, e_aload_n_0, e_iload_n_1, e_call_2, psh_s, psh_n, Option.bind_some, e_iconst_0, e_istore_n_2, clr_i, clr_l, clr_a, clr_n, e_gotow, T_86_7, e_iload_n_2, e_sipush_1600, e_ic_ge, e_bipush_42, e_if_ne, e_bipush_47, e_bipush_37, e_if_eq, T_86_41, B_86_41, G_600, G_904, e_istore_n_3, e_call_1, G_601, G_511, e_iload_n_3, e_iinc_2_1, e_goto, T_86_78, B_86_78, R_86, kd_sI, ln_sI, hl_sI, gL_sI, gR_sI, kd_sL, ln_sL, hl_sL, gI_sL, gR_sL, kd_sR, ln_sR, hl_sR, gI_sR, gL_sR, kd_cpI, ln_cpI, hl_cpI, gL_cpI, gR_cpI, gI_cpI, gI_sI, gL_sL, gR_sR, St_sI, St_sL, St_cpI, Nat.reduceEqDiff, Nat.reduceAdd, eq_self, false_and, and_false, true_and, and_true, and_self, if_true, if_false, false_or, or_false, true_or, or_true, not_true_eq_false, not_false_eq_true, reduceIte, K_45, F_45_0, K_43, F_43_0, KO_0, KO_1, KO_2, NO_2, KO_3, NO_3, KO_4, KO_5, NO_5, KO_6, NO_6, KO_7, NO_7, KO_8, KO_9, NO_9, KO_10, NO_10, KO_11, NO_11, KO_12, NO_12, KO_13, NO_13, KO_14, NO_14, KO_15, KO_16, NO_16, KO_17, NO_17, KO_18, NO_18, KO_19, NO_19, FO_0_0, FO_0_1, FO_0_2, FO_0_3, FO_0_4, FO_0_5, FO_0_6, FO_0_7, FO_0_8, FO_0_9, FO_0_10, FO_0_11, FO_1_0, FO_4_0, FO_8_0, FO_15_0, FO_15_2, FO_15_3, FO_15_4, Oo_2, Oo_p, (eq_false (by simp (disch := omega) only [nI_lit, nI_add, lt_nI, le_nI, eq_nI] <;> omega) : ((1600 : Int32) ≤ nI n) = False), w42, w47, w37, e10, hv, s1, hS1, s2, hS2, o1, ho, s3, nI_1, List.length_nil, List.length_cons, Nat.zero_le]
        · rw [show isS (tks x (qi q)) 42 = false from Bool.eq_false_iff.mpr (fun y => by have := (isS_k.mp y).2; omega), b2i_f] at w42
          rw [show isS (tks x (qi q)) 47 = false from Bool.eq_false_iff.mpr (fun y => by have := (isS_k.mp y).2; omega), b2i_f] at w47
          rw [show isS (tks x (qi q)) 37 = true from isS_k.mpr ⟨c2.1, v⟩, b2i_t] at w37
          conv => lhs; rw [B_86_7]
          simp (disch := first | assumption | exact b2i_01 _ | decide | omega | (simp only [kd_sI, ln_sI, hl_sI, gL_sI, gR_sI, kd_sL, ln_sL, hl_sL, gI_sL, gR_sL, kd_sR, ln_sR, hl_sR, gI_sR, gL_sR, kd_cpI, ln_cpI, hl_cpI, gL_cpI, gR_cpI, gI_cpI, gI_sI, gL_sL, gR_sR, St_sI, St_sL, St_cpI, Nat.reduceEqDiff, Nat.reduceAdd, eq_self, false_and, and_false, true_and, and_true, and_self, if_true, if_false, false_or, or_false, true_or, or_true, not_true_eq_false, not_false_eq_true, reduceIte, K_45, F_45_0, K_43, F_43_0, KO_0, KO_1, KO_2, NO_2, KO_3, NO_3, KO_4, KO_5, NO_5, KO_6, NO_6, KO_7, NO_7, KO_8, KO_9, NO_9, KO_10, NO_10, KO_11, NO_11, KO_12, NO_12, KO_13, NO_13, KO_14, NO_14, KO_15, KO_16, NO_16, KO_17, NO_17, KO_18, NO_18, KO_19, NO_19, FO_0_0, FO_0_1, FO_0_2, FO_0_3, FO_0_4, FO_0_5, FO_0_6, FO_0_7, FO_0_8, FO_0_9, FO_0_10, FO_0_11, FO_1_0, FO_4_0, FO_8_0, FO_15_0, FO_15_2, FO_15_3, FO_15_4, Oo_2, Oo_p, hS, (eq_false (by simp (disch := omega) only [nI_lit, nI_add, lt_nI, le_nI, eq_nI] <;> omega) : ((1600 : Int32) ≤ nI n) = False), w42, w47, w37, e10, hv, s1, hS1, s2, hS2, o1, ho, s3, nI_1, List.length_nil, List.length_cons, Nat.zero_le] <;> first | done | decide | omega | fail) | fail) only [B_86_0, e_aload_n_0, e_iload_n_1, e_call_2, psh_s, psh_n, Option.bind_some, e_iconst_0, e_istore_n_2, clr_i, clr_l, clr_a, clr_n, e_gotow, T_86_7, e_iload_n_2, e_sipush_1600, e_ic_ge, e_bipush_42, e_if_ne, e_bipush_47, e_bipush_37, e_if_eq, T_86_41, B_86_41, G_600, G_904, e_istore_n_3, e_call_1, G_601, G_511, e_iload_n_3, e_iinc_2_1, e_goto, T_86_78, B_86_78, R_86, kd_sI, ln_sI, hl_sI, gL_sI, gR_sI, kd_sL, ln_sL, hl_sL, gI_sL, gR_sL, kd_sR, ln_sR, hl_sR, gI_sR, gL_sR, kd_cpI, ln_cpI, hl_cpI, gL_cpI, gR_cpI, gI_cpI, gI_sI, gL_sL, gR_sR, St_sI, St_sL, St_cpI, Nat.reduceEqDiff, Nat.reduceAdd, eq_self, false_and, and_false, true_and, and_true, and_self, if_true, if_false, false_or, or_false, true_or, or_true, not_true_eq_false, not_false_eq_true, reduceIte, K_45, F_45_0, K_43, F_43_0, KO_0, KO_1, KO_2, NO_2, KO_3, NO_3, KO_4, KO_5, NO_5, KO_6, NO_6, KO_7, NO_7, KO_8, KO_9, NO_9, KO_10, NO_10, KO_11, NO_11, KO_12, NO_12, KO_13, NO_13, KO_14, NO_14, KO_15, KO_16, NO_16, KO_17, NO_17, KO_18, NO_18, KO_19, NO_19, FO_0_0, FO_0_1, FO_0_2, FO_0_3, FO_0_4, FO_0_5, FO_0_6, FO_0_7, FO_0_8, FO_0_9, FO_0_10, FO_0_11, FO_1_0, FO_4_0, FO_8_0, FO_15_0, FO_15_2, FO_15_3, FO_15_4, Oo_2, Oo_p, (eq_false (by simp (disch := omega) only [nI_lit, nI_add, lt_nI, le_nI, eq_nI] <;> omega) : ((1600 : Int32) ≤ nI n) = False), w42, w47, w37, e10, hv, s1, hS1, s2, hS2, o1, ho, s3, nI_1, List.length_nil, List.length_cons, Nat.zero_le]
      rw [run]
      rcases R3 with ⟨z, G3⟩ | ⟨z, B3⟩
      · obtain ⟨h4, s4, R4, m4⟩ := ih (fun f' hf' => hP f' (by omega)) d (emt (3, nI (tkV (tks x (qi q)))) r) pend g h3 (n + 1) (some (.int (nI (tkV (tks x (qi q)))))) hd z (by
          have : ms 16 (emt (3, nI (tkV (tks x (qi q)))) r) = 16 * (1602 - qi (emt (3, nI (tkV (tks x (qi q)))) r)) + 1 := rfl
          rw [emt_i] at this
          omega) (by rw [emt_i]; exact hqr) (by rw [emt_i]; omega) (by
          rw [emt_f] at z
          exact (hPI z).bin hsn z) G3
        exact ⟨h4, s4, R4, t3.trans m4⟩
      · refine ⟨h3, ?_, ?_, t3⟩
        · have hS := B3.1
          have wb42 := s_Re_isSignB B3.1 B3.2.1.2.2.1 42 (μ := 9 + 8 * (8 - d)) (by omega)
          have wb47 := s_Re_isSignB B3.1 B3.2.1.2.2.1 47 (μ := 9 + 8 * (8 - d)) (by omega)
          have wb37 := s_Re_isSignB B3.1 B3.2.1.2.2.1 37 (μ := 9 + 8 * (8 - d)) (by omega)
          conv => lhs; rw [B_86_7]
          by_cases cn : n + 1 < 1600
          · simp (disch := first | assumption | exact b2i_01 _ | decide | omega | (simp only [kd_sI, ln_sI, hl_sI, gL_sI, gR_sI, kd_sL, ln_sL, hl_sL, gI_sL, gR_sL, kd_sR, ln_sR, hl_sR, gI_sR, gL_sR, kd_cpI, ln_cpI, hl_cpI, gL_cpI, gR_cpI, gI_cpI, gI_sI, gL_sL, gR_sR, St_sI, St_sL, St_cpI, Nat.reduceEqDiff, Nat.reduceAdd, eq_self, false_and, and_false, true_and, and_true, and_self, if_true, if_false, false_or, or_false, true_or, or_true, not_true_eq_false, not_false_eq_true, reduceIte, K_45, F_45_0, hS, (eq_false (by simp (disch := omega) only [nI_lit, nI_add, lt_nI, le_nI, eq_nI] <;> omega) : ((1600 : Int32) ≤ nI (n + 1)) = False), wb42, wb47, wb37, List.length_nil, List.length_cons, Nat.zero_le] <;> first | done | decide | omega | fail) | fail) only [B_86_0, e_aload_n_0, e_iload_n_1, e_call_2, psh_s, psh_n, Option.bind_some, e_iconst_0, e_istore_n_2, clr_i, clr_l, clr_a, clr_n, e_gotow, T_86_7, e_iload_n_2, e_sipush_1600, e_ic_ge, e_bipush_42, e_if_ne, e_bipush_47, e_bipush_37, e_if_eq, T_86_41, B_86_41, G_600, G_904, e_istore_n_3, e_call_1, G_601, G_511, e_iload_n_3, e_iinc_2_1, e_goto, T_86_78, B_86_78, R_86, kd_sI, ln_sI, hl_sI, gL_sI, gR_sI, kd_sL, ln_sL, hl_sL, gI_sL, gR_sL, kd_sR, ln_sR, hl_sR, gI_sR, gL_sR, kd_cpI, ln_cpI, hl_cpI, gL_cpI, gR_cpI, gI_cpI, gI_sI, gL_sL, gR_sR, St_sI, St_sL, St_cpI, Nat.reduceEqDiff, Nat.reduceAdd, eq_self, false_and, and_false, true_and, and_true, and_self, if_true, if_false, false_or, or_false, true_or, or_true, not_true_eq_false, not_false_eq_true, reduceIte, K_45, F_45_0, (eq_false (by simp (disch := omega) only [nI_lit, nI_add, lt_nI, le_nI, eq_nI] <;> omega) : ((1600 : Int32) ≤ nI (n + 1)) = False), wb42, wb47, wb37, List.length_nil, List.length_cons, Nat.zero_le]
          · simp (disch := first | assumption | exact b2i_01 _ | decide | omega | (simp only [kd_sI, ln_sI, hl_sI, gL_sI, gR_sI, kd_sL, ln_sL, hl_sL, gI_sL, gR_sL, kd_sR, ln_sR, hl_sR, gI_sR, gL_sR, kd_cpI, ln_cpI, hl_cpI, gL_cpI, gR_cpI, gI_cpI, gI_sI, gL_sL, gR_sR, St_sI, St_sL, St_cpI, Nat.reduceEqDiff, Nat.reduceAdd, eq_self, false_and, and_false, true_and, and_true, and_self, if_true, if_false, false_or, or_false, true_or, or_true, not_true_eq_false, not_false_eq_true, reduceIte, K_45, F_45_0, hS, (eq_true (by simp (disch := omega) only [nI_lit, nI_add, lt_nI, le_nI, eq_nI] <;> omega) : ((1600 : Int32) ≤ nI (n + 1)) = True), List.length_nil, List.length_cons, Nat.zero_le] <;> first | done | decide | omega | fail) | fail) only [B_86_0, e_aload_n_0, e_iload_n_1, e_call_2, psh_s, psh_n, Option.bind_some, e_iconst_0, e_istore_n_2, clr_i, clr_l, clr_a, clr_n, e_gotow, T_86_7, e_iload_n_2, e_sipush_1600, e_ic_ge, e_bipush_42, e_if_ne, e_bipush_47, e_bipush_37, e_if_eq, T_86_41, B_86_41, G_600, G_904, e_istore_n_3, e_call_1, G_601, G_511, e_iload_n_3, e_iinc_2_1, e_goto, T_86_78, B_86_78, R_86, kd_sI, ln_sI, hl_sI, gL_sI, gR_sI, kd_sL, ln_sL, hl_sL, gI_sL, gR_sL, kd_sR, ln_sR, hl_sR, gI_sR, gL_sR, kd_cpI, ln_cpI, hl_cpI, gL_cpI, gR_cpI, gI_cpI, gI_sI, gL_sL, gR_sR, St_sI, St_sL, St_cpI, Nat.reduceEqDiff, Nat.reduceAdd, eq_self, false_and, and_false, true_and, and_true, and_self, if_true, if_false, false_or, or_false, true_or, or_true, not_true_eq_false, not_false_eq_true, reduceIte, K_45, F_45_0, (eq_true (by simp (disch := omega) only [nI_lit, nI_add, lt_nI, le_nI, eq_nI] <;> omega) : ((1600 : Int32) ≤ nI (n + 1)) = True), List.length_nil, List.length_cons, Nat.zero_le]
        · obtain ⟨f', rfl⟩ : ∃ f', f = f' + 1 := ⟨f - 1, by omega⟩
          rw [rd_stop z]
          exact Or.inr ⟨z, B3⟩
    · rw [if_neg c]
      refine ⟨h, ?_, Or.inl ⟨hq, hG⟩, Sm.rf h _⟩
      have c3 : ¬ tg (tks x (qi q)) = 6 := by omega
      rw [show isS (tks x (qi q)) 42 = false from Bool.eq_false_iff.mpr (fun y => c3 (tg_s.2.2.mpr ⟨(isS_k.mp y).1, by have := (isS_k.mp y).2; omega⟩)), b2i_f] at w42
      rw [show isS (tks x (qi q)) 47 = false from Bool.eq_false_iff.mpr (fun y => c3 (tg_s.2.2.mpr ⟨(isS_k.mp y).1, by have := (isS_k.mp y).2; omega⟩)), b2i_f] at w47
      rw [show isS (tks x (qi q)) 37 = false from Bool.eq_false_iff.mpr (fun y => c3 (tg_s.2.2.mpr ⟨(isS_k.mp y).1, by have := (isS_k.mp y).2; omega⟩)), b2i_f] at w37
      conv => lhs; rw [B_86_7]
      by_cases cn : n < 1600
      · simp (disch := first | assumption | exact b2i_01 _ | decide | omega | (simp only [kd_sI, ln_sI, hl_sI, gL_sI, gR_sI, kd_sL, ln_sL, hl_sL, gI_sL, gR_sL, kd_sR, ln_sR, hl_sR, gI_sR, gL_sR, kd_cpI, ln_cpI, hl_cpI, gL_cpI, gR_cpI, gI_cpI, gI_sI, gL_sL, gR_sR, St_sI, St_sL, St_cpI, Nat.reduceEqDiff, Nat.reduceAdd, eq_self, false_and, and_false, true_and, and_true, and_self, if_true, if_false, false_or, or_false, true_or, or_true, not_true_eq_false, not_false_eq_true, reduceIte, K_45, F_45_0, hS, (eq_false (by simp (disch := omega) only [nI_lit, nI_add, lt_nI, le_nI, eq_nI] <;> omega) : ((1600 : Int32) ≤ nI n) = False), w42, w47, w37, List.length_nil, List.length_cons, Nat.zero_le] <;> first | done | decide | omega | fail) | fail) only [B_86_0, e_aload_n_0, e_iload_n_1, e_call_2, psh_s, psh_n, Option.bind_some, e_iconst_0, e_istore_n_2, clr_i, clr_l, clr_a, clr_n, e_gotow, T_86_7, e_iload_n_2, e_sipush_1600, e_ic_ge, e_bipush_42, e_if_ne, e_bipush_47, e_bipush_37, e_if_eq, T_86_41, B_86_41, G_600, G_904, e_istore_n_3, e_call_1, G_601, G_511, e_iload_n_3, e_iinc_2_1, e_goto, T_86_78, B_86_78, R_86, kd_sI, ln_sI, hl_sI, gL_sI, gR_sI, kd_sL, ln_sL, hl_sL, gI_sL, gR_sL, kd_sR, ln_sR, hl_sR, gI_sR, gL_sR, kd_cpI, ln_cpI, hl_cpI, gL_cpI, gR_cpI, gI_cpI, gI_sI, gL_sL, gR_sR, St_sI, St_sL, St_cpI, Nat.reduceEqDiff, Nat.reduceAdd, eq_self, false_and, and_false, true_and, and_true, and_self, if_true, if_false, false_or, or_false, true_or, or_true, not_true_eq_false, not_false_eq_true, reduceIte, K_45, F_45_0, (eq_false (by simp (disch := omega) only [nI_lit, nI_add, lt_nI, le_nI, eq_nI] <;> omega) : ((1600 : Int32) ≤ nI n) = False), w42, w47, w37, List.length_nil, List.length_cons, Nat.zero_le]
      · simp (disch := first | assumption | exact b2i_01 _ | decide | omega | (simp only [kd_sI, ln_sI, hl_sI, gL_sI, gR_sI, kd_sL, ln_sL, hl_sL, gI_sL, gR_sL, kd_sR, ln_sR, hl_sR, gI_sR, gL_sR, kd_cpI, ln_cpI, hl_cpI, gL_cpI, gR_cpI, gI_cpI, gI_sI, gL_sL, gR_sR, St_sI, St_sL, St_cpI, Nat.reduceEqDiff, Nat.reduceAdd, eq_self, false_and, and_false, true_and, and_true, and_self, if_true, if_false, false_or, or_false, true_or, or_true, not_true_eq_false, not_false_eq_true, reduceIte, K_45, F_45_0, hS, (eq_true (by simp (disch := omega) only [nI_lit, nI_add, lt_nI, le_nI, eq_nI] <;> omega) : ((1600 : Int32) ≤ nI n) = True), List.length_nil, List.length_cons, Nat.zero_le] <;> first | done | decide | omega | fail) | fail) only [B_86_0, e_aload_n_0, e_iload_n_1, e_call_2, psh_s, psh_n, Option.bind_some, e_iconst_0, e_istore_n_2, clr_i, clr_l, clr_a, clr_n, e_gotow, T_86_7, e_iload_n_2, e_sipush_1600, e_ic_ge, e_bipush_42, e_if_ne, e_bipush_47, e_bipush_37, e_if_eq, T_86_41, B_86_41, G_600, G_904, e_istore_n_3, e_call_1, G_601, G_511, e_iload_n_3, e_iinc_2_1, e_goto, T_86_78, B_86_78, R_86, kd_sI, ln_sI, hl_sI, gL_sI, gR_sI, kd_sL, ln_sL, hl_sL, gI_sL, gR_sL, kd_sR, ln_sR, hl_sR, gI_sR, gL_sR, kd_cpI, ln_cpI, hl_cpI, gL_cpI, gR_cpI, gI_cpI, gI_sI, gL_sL, gR_sR, St_sI, St_sL, St_cpI, Nat.reduceEqDiff, Nat.reduceAdd, eq_self, false_and, and_false, true_and, and_true, and_self, if_true, if_false, false_or, or_false, true_or, or_true, not_true_eq_false, not_false_eq_true, reduceIte, K_45, F_45_0, (eq_true (by simp (disch := omega) only [nI_lit, nI_add, lt_nI, le_nI, eq_nI] <;> omega) : ((1600 : Int32) ≤ nI n) = True), List.length_nil, List.length_cons, Nat.zero_le]
theorem pcl_6 {x : Txt} {N : List Int64} {o : Nat} {pre : List (Int32 × Int32)} (ho : Oo o) (hp : PrO pre) {f : Nat} (hP : ∀ f', f' ≤ f → Pcl x N o pre f' 7 87 8) : Pcl x N o pre (f + 1) 6 86 9 := by
  intro d q pend c g h μ hd hc hq hm hi hI hG hμ
  have hS := hG.1
  have hx := hG.2.1.1
  have hmu := muN (k := 86) (r := 9) (d := d) rfl (by omega)
  have hms : ms 6 q = 16 * (1602 - qi q) + 2 := rfl
  obtain ⟨h2, s2, R2, m2⟩ := hP f (Nat.le_refl _) d q pend c g h (9 + 8 * (8 - d)) hd hc hq (by
    have : ms 7 q = 16 * (1602 - qi q) + 0 := rfl
    omega) hi hI hG (by omega)
  have hPI := PI_rd (N := N) (pre := pre) hx f 7 d q pend c g (by unfold Lv; omega) hq hd hc (by intro z; omega) hI
  rw [if_neg (show ¬ 10 ≤ 7 by decide)] at hPI
  have hmn := rd_mono (x := x) (N := N) f 7 d q
  have hqr := rd_qi (N := N) hx f 7 d q (by unfold Lv; omega) hi
  rw [rd_lv hq (by decide) (by decide) (by decide), show nxl 6 = 7 from rfl]
  rw [C_86 45 _ μ h (K_45 hS) (by decide) (by rw [hmu]; exact hμ), hmu]
  generalize rd x N f 7 d q = r at R2 hPI hmn hqr ⊢
  rcases R2 with ⟨z, G2⟩ | ⟨z, B2⟩
  · obtain ⟨h3, s3, R3, m3⟩ := lpc_6 ho hp f (fun f' hf' => hP f' (by omega)) d r pend g h2 0 none hd z (by
      have : ms 16 r = 16 * (1602 - qi r) + 1 := rfl
      omega) hqr (by omega) (hPI z) G2
    refine ⟨h3, ?_, R3, m2.trans m3⟩
    simp (disch := first | assumption | exact b2i_01 _ | decide | omega | (simp only [kd_sI, ln_sI, hl_sI, gL_sI, gR_sI, kd_sL, ln_sL, hl_sL, gI_sL, gR_sL, kd_sR, ln_sR, hl_sR, gI_sR, gL_sR, kd_cpI, ln_cpI, hl_cpI, gL_cpI, gR_cpI, gI_cpI, gI_sI, gL_sL, gR_sR, St_sI, St_sL, St_cpI, Nat.reduceEqDiff, Nat.reduceAdd, eq_self, false_and, and_false, true_and, and_true, and_self, if_true, if_false, false_or, or_false, true_or, or_true, not_true_eq_false, not_false_eq_true, reduceIte, K_45, F_45_0, hS, s2, List.length_nil, List.length_cons, Nat.zero_le] <;> first | done | decide | omega | fail) | fail) only [B_86_0, e_aload_n_0, e_iload_n_1, e_call_2, psh_s, psh_n, Option.bind_some, e_iconst_0, e_istore_n_2, clr_i, clr_l, clr_a, clr_n, e_gotow, T_86_7, e_iload_n_2, e_sipush_1600, e_ic_ge, e_bipush_42, e_if_ne, e_bipush_47, e_bipush_37, e_if_eq, T_86_41, B_86_41, G_600, G_904, e_istore_n_3, e_call_1, G_601, G_511, e_iload_n_3, e_iinc_2_1, e_goto, T_86_78, B_86_78, R_86, kd_sI, ln_sI, hl_sI, gL_sI, gR_sI, kd_sL, ln_sL, hl_sL, gI_sL, gR_sL, kd_sR, ln_sR, hl_sR, gI_sR, gL_sR, kd_cpI, ln_cpI, hl_cpI, gL_cpI, gR_cpI, gI_cpI, gI_sI, gL_sL, gR_sR, St_sI, St_sL, St_cpI, Nat.reduceEqDiff, Nat.reduceAdd, eq_self, false_and, and_false, true_and, and_true, and_self, if_true, if_false, false_or, or_false, true_or, or_true, not_true_eq_false, not_false_eq_true, reduceIte, K_45, F_45_0, s2, List.length_nil, List.length_cons, Nat.zero_le]
    exact s3
  · refine ⟨h2, ?_, ?_, m2⟩
    · have hS2 := B2.1
      have wb42 := s_Re_isSignB B2.1 B2.2.1.2.2.1 42 (μ := 9 + 8 * (8 - d)) (by omega)
      have wb47 := s_Re_isSignB B2.1 B2.2.1.2.2.1 47 (μ := 9 + 8 * (8 - d)) (by omega)
      have wb37 := s_Re_isSignB B2.1 B2.2.1.2.2.1 37 (μ := 9 + 8 * (8 - d)) (by omega)
      simp (disch := first | assumption | exact b2i_01 _ | decide | omega | (simp only [kd_sI, ln_sI, hl_sI, gL_sI, gR_sI, kd_sL, ln_sL, hl_sL, gI_sL, gR_sL, kd_sR, ln_sR, hl_sR, gI_sR, gL_sR, kd_cpI, ln_cpI, hl_cpI, gL_cpI, gR_cpI, gI_cpI, gI_sI, gL_sL, gR_sR, St_sI, St_sL, St_cpI, Nat.reduceEqDiff, Nat.reduceAdd, eq_self, false_and, and_false, true_and, and_true, and_self, if_true, if_false, false_or, or_false, true_or, or_true, not_true_eq_false, not_false_eq_true, reduceIte, K_45, F_45_0, hS, s2, wb42, wb47, wb37, show ((1600 : Int32) ≤ 0) = False by decide, List.length_nil, List.length_cons, Nat.zero_le] <;> first | done | decide | omega | fail) | fail) only [B_86_0, e_aload_n_0, e_iload_n_1, e_call_2, psh_s, psh_n, Option.bind_some, e_iconst_0, e_istore_n_2, clr_i, clr_l, clr_a, clr_n, e_gotow, T_86_7, B_86_7, e_iload_n_2, e_sipush_1600, e_ic_ge, e_bipush_42, e_if_ne, e_bipush_47, e_bipush_37, e_if_eq, T_86_41, B_86_41, G_600, G_904, e_istore_n_3, e_call_1, G_601, G_511, e_iload_n_3, e_iinc_2_1, e_goto, T_86_78, B_86_78, R_86, kd_sI, ln_sI, hl_sI, gL_sI, gR_sI, kd_sL, ln_sL, hl_sL, gI_sL, gR_sL, kd_sR, ln_sR, hl_sR, gI_sR, gL_sR, kd_cpI, ln_cpI, hl_cpI, gL_cpI, gR_cpI, gI_cpI, gI_sI, gL_sL, gR_sR, St_sI, St_sL, St_cpI, Nat.reduceEqDiff, Nat.reduceAdd, eq_self, false_and, and_false, true_and, and_true, and_self, if_true, if_false, false_or, or_false, true_or, or_true, not_true_eq_false, not_false_eq_true, reduceIte, K_45, F_45_0, s2, wb42, wb47, wb37, show ((1600 : Int32) ≤ 0) = False by decide, List.length_nil, List.length_cons, Nat.zero_le]
    · obtain ⟨f', rfl⟩ : ∃ f', f = f' + 1 := ⟨f - 1, by omega⟩
      rw [rd_stop z]
      exact Or.inr ⟨z, B2⟩
