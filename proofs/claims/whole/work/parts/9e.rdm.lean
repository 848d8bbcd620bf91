/-! the reference's reader: small steps -/
def TkO (t : Tk) : Prop := tkK t ≤ 4 ∧ (tkK t = 4 → 37 ≤ tkV t ∧ tkV t < 128)
theorem tks_o {x : Txt} (hx : TxB x) (i : Nat) : TkO (tks x i) := by
  refine ⟨tks_5 hx i, fun h => ?_⟩
  obtain ⟨p, hp, e⟩ := tks_at x hx i
  rw [e] at h ⊢
  have k := tkn_sign h
  unfold pG at k
  simp only [Bool.or_eq_true, beq_iff_eq] at k
  omega
theorem kM_1 {t : Tk} (ht : TkO t) : (kM t = 1) = (tkK t = 2) := by
  unfold kM
  apply propext
  by_cases a : tkK t = 4
  · rw [if_pos a]
    have := ht.2 a
    constructor
    · intro z
      have := (eq_nI (a := tkV t) (b := 1) (by omega) (by omega)).mp z
      omega
    · intro z; omega
  · rw [if_neg a]
    by_cases b : tkK t = 3
    · rw [if_pos b]; exact ⟨fun z => absurd z (by decide), fun z => by omega⟩
    · rw [if_neg b]
      by_cases c : tkK t = 2
      · rw [if_pos c]; exact ⟨fun _ => c, fun _ => rfl⟩
      · rw [if_neg c]
        by_cases d : tkK t = 1
        · rw [if_pos d]; exact ⟨fun z => absurd z (by decide), fun z => by omega⟩
        · rw [if_neg d]; exact ⟨fun z => absurd z (by decide), fun z => by omega⟩
theorem kM_2 {t : Tk} (ht : TkO t) : (kM t = 2) = (tkK t = 3) := by
  unfold kM
  apply propext
  by_cases a : tkK t = 4
  · rw [if_pos a]
    have := ht.2 a
    constructor
    · intro z
      have := (eq_nI (a := tkV t) (b := 2) (by omega) (by omega)).mp z
      omega
    · intro z; omega
  · rw [if_neg a]
    by_cases b : tkK t = 3
    · rw [if_pos b]; exact ⟨fun _ => b, fun _ => rfl⟩
    · rw [if_neg b]
      by_cases c : tkK t = 2
      · rw [if_pos c]; exact ⟨fun z => absurd z (by decide), fun z => by omega⟩
      · rw [if_neg c]
        by_cases d : tkK t = 1
        · rw [if_pos d]; exact ⟨fun z => absurd z (by decide), fun z => by omega⟩
        · rw [if_neg d]; exact ⟨fun z => absurd z (by decide), fun z => by omega⟩
theorem kM_3 {t : Tk} (ht : TkO t) : (kM t = 3) = (tkK t = 1) := by
  unfold kM
  apply propext
  by_cases a : tkK t = 4
  · rw [if_pos a]
    have := ht.2 a
    constructor
    · intro z
      have := (eq_nI (a := tkV t) (b := 3) (by omega) (by omega)).mp z
      omega
    · intro z; omega
  · rw [if_neg a]
    by_cases b : tkK t = 3
    · rw [if_pos b]; exact ⟨fun z => absurd z (by decide), fun z => by omega⟩
    · rw [if_neg b]
      by_cases c : tkK t = 2
      · rw [if_pos c]; exact ⟨fun z => absurd z (by decide), fun z => by omega⟩
      · rw [if_neg c]
        by_cases d : tkK t = 1
        · rw [if_pos d]; exact ⟨fun _ => d, fun _ => rfl⟩
        · rw [if_neg d]; exact ⟨fun z => absurd z (by decide), fun z => by omega⟩
theorem kM_0 {t : Tk} (ht : TkO t) : (kM t = 0) = (tkK t = 0) := by
  unfold kM
  apply propext
  by_cases a : tkK t = 4
  · rw [if_pos a]
    have := ht.2 a
    constructor
    · intro z
      have := (eq_nI (a := tkV t) (b := 0) (by omega) (by omega)).mp z
      omega
    · intro z; omega
  · rw [if_neg a]
    by_cases b : tkK t = 3
    · rw [if_pos b]; exact ⟨fun z => absurd z (by decide), fun z => by omega⟩
    · rw [if_neg b]
      by_cases c : tkK t = 2
      · rw [if_pos c]; exact ⟨fun z => absurd z (by decide), fun z => by omega⟩
      · rw [if_neg c]
        by_cases d : tkK t = 1
        · rw [if_pos d]; exact ⟨fun z => absurd z (by decide), fun z => by omega⟩
        · rw [if_neg d]; exact ⟨fun _ => by have := ht.1; omega, fun _ => rfl⟩
theorem kM_s {t : Tk} (ht : TkO t) {c : Nat} (hc : 37 ≤ c) (hc2 : c < 128) : (kM t = nI c) = (isS t c = true) := by
  unfold kM
  apply propext
  rw [isS_k]
  have k2 : ¬ (2 : Int32) = nI c := fun z => by
    have := (eq_nI (a := 2) (b := c) (by omega) (by omega)).mp z
    omega
  have k1 : ¬ (1 : Int32) = nI c := fun z => by
    have := (eq_nI (a := 1) (b := c) (by omega) (by omega)).mp z
    omega
  have k3 : ¬ (3 : Int32) = nI c := fun z => by
    have := (eq_nI (a := 3) (b := c) (by omega) (by omega)).mp z
    omega
  have k0 : ¬ (0 : Int32) = nI c := fun z => by
    have := (eq_nI (a := 0) (b := c) (by omega) (by omega)).mp z
    omega
  by_cases a : tkK t = 4
  · rw [if_pos a]
    have := ht.2 a
    rw [eq_nI (by omega) (by omega)]
    exact ⟨fun z => ⟨a, z⟩, fun z => z.2⟩
  · rw [if_neg a]
    by_cases b : tkK t = 3
    · rw [if_pos b]; exact ⟨fun z => absurd z k2, fun z => by omega⟩
    · rw [if_neg b]
      by_cases c : tkK t = 2
      · rw [if_pos c]; exact ⟨fun z => absurd z k1, fun z => by omega⟩
      · rw [if_neg c]
        by_cases d : tkK t = 1
        · rw [if_pos d]; exact ⟨fun z => absurd z k3, fun z => by omega⟩
        · rw [if_neg d]; exact ⟨fun z => absurd z k0, fun z => by omega⟩
theorem s_Mo_isWord {t : Tk} {h : MH} (hS : St h) (hk : TokM t h) (ht : TkO t) (w : Int64) {μ : Nat} (hμ : 3 < μ) : cal 217 [.ref 66, .long w] μ h = some (some (.int (b2i (decide (tkK t = 2 ∧ tkW t = w)))), h) := by
  obtain ⟨a1, a2, a3, a4, a5⟩ := hk
  rw [C_217 66 _ μ _ (K_66 hS) (by decide) hμ]
  by_cases c : tkK t = 2
  · have a5 := a5 c
    have a1 : gI h 66 6 = 1 := by rw [a1, kM_1 ht]; exact c
    by_cases d : tkW t = w
    · rw [decide_eq_true ⟨c, d⟩, b2i_t]
      simp (disch := first | assumption | exact b2i_01 _ | decide | omega | (simp only [kd_sI, ln_sI, hl_sI, gL_sI, gR_sI, kd_sL, ln_sL, hl_sL, gI_sL, gR_sL, kd_sR, ln_sR, hl_sR, gI_sR, gL_sR, kd_cpI, ln_cpI, hl_cpI, gL_cpI, gR_cpI, gI_cpI, gI_sI, gL_sL, gR_sR, St_sI, St_sL, St_cpI, Nat.reduceEqDiff, Nat.reduceAdd, eq_self, false_and, and_false, true_and, and_true, and_self, if_true, if_false, false_or, or_false, true_or, or_true, not_true_eq_false, not_false_eq_true, reduceIte, K_66, F_66_0, F_66_10, F_66_11, F_66_12, F_66_13, F_66_14, F_66_15, F_66_16, F_66_17, F_66_18, F_66_25, F_66_26, F_66_27, F_66_28, F_66_29, F_66_30, F_66_31, F_66_32, F_66_33, F_66_34, F_66_35, F_66_36, F_66_37, F_66_38, F_66_39, F_66_60, F_66_61, F_66_62, F_66_63, F_66_66, F_66_68, F_66_69, F_66_71, F_66_72, F_66_73, F_66_74, F_66_77, F_66_78, F_66_79, F_66_80, F_66_81, F_66_84, F_66_85, F_66_86, F_66_87, hS, a1, a5, lgc_eq, d] <;> first | done | decide | omega | fail) | fail) only [B_217_0, e_aload_n_0, G_1206, e_iconst_1, e_ic_ne, G_1209, e_lload_n_1, e_lcmp, e_if_ne, e_goto, T_217_21, B_217_21, e_iconst_0, e_gotow, T_217_22, B_217_22, R_217, eq_self, true_or, or_true, b2i_or, kd_sI, ln_sI, hl_sI, gL_sI, gR_sI, kd_sL, ln_sL, hl_sL, gI_sL, gR_sL, kd_sR, ln_sR, hl_sR, gI_sR, gL_sR, kd_cpI, ln_cpI, hl_cpI, gL_cpI, gR_cpI, gI_cpI, gI_sI, gL_sL, gR_sR, St_sI, St_sL, St_cpI, Nat.reduceEqDiff, Nat.reduceAdd, eq_self, false_and, and_false, true_and, and_true, and_self, if_true, if_false, false_or, or_false, true_or, or_true, not_true_eq_false, not_false_eq_true, reduceIte, K_66, F_66_0, F_66_10, F_66_11, F_66_12, F_66_13, F_66_14, F_66_15, F_66_16, F_66_17, F_66_18, F_66_25, F_66_26, F_66_27, F_66_28, F_66_29, F_66_30, F_66_31, F_66_32, F_66_33, F_66_34, F_66_35, F_66_36, F_66_37, F_66_38, F_66_39, F_66_60, F_66_61, F_66_62, F_66_63, F_66_66, F_66_68, F_66_69, F_66_71, F_66_72, F_66_73, F_66_74, F_66_77, F_66_78, F_66_79, F_66_80, F_66_81, F_66_84, F_66_85, F_66_86, F_66_87, a1, a5, lgc_eq, d]
    · rw [decide_eq_false (fun z => d z.2), b2i_f]
      simp (disch := first | assumption | exact b2i_01 _ | decide | omega | (simp only [kd_sI, ln_sI, hl_sI, gL_sI, gR_sI, kd_sL, ln_sL, hl_sL, gI_sL, gR_sL, kd_sR, ln_sR, hl_sR, gI_sR, gL_sR, kd_cpI, ln_cpI, hl_cpI, gL_cpI, gR_cpI, gI_cpI, gI_sI, gL_sL, gR_sR, St_sI, St_sL, St_cpI, Nat.reduceEqDiff, Nat.reduceAdd, eq_self, false_and, and_false, true_and, and_true, and_self, if_true, if_false, false_or, or_false, true_or, or_true, not_true_eq_false, not_false_eq_true, reduceIte, K_66, F_66_0, F_66_10, F_66_11, F_66_12, F_66_13, F_66_14, F_66_15, F_66_16, F_66_17, F_66_18, F_66_25, F_66_26, F_66_27, F_66_28, F_66_29, F_66_30, F_66_31, F_66_32, F_66_33, F_66_34, F_66_35, F_66_36, F_66_37, F_66_38, F_66_39, F_66_60, F_66_61, F_66_62, F_66_63, F_66_66, F_66_68, F_66_69, F_66_71, F_66_72, F_66_73, F_66_74, F_66_77, F_66_78, F_66_79, F_66_80, F_66_81, F_66_84, F_66_85, F_66_86, F_66_87, hS, a1, a5, lgc_eq, d] <;> first | done | decide | omega | fail) | fail) only [B_217_0, e_aload_n_0, G_1206, e_iconst_1, e_ic_ne, G_1209, e_lload_n_1, e_lcmp, e_if_ne, e_goto, T_217_21, B_217_21, e_iconst_0, e_gotow, T_217_22, B_217_22, R_217, eq_self, true_or, or_true, b2i_or, kd_sI, ln_sI, hl_sI, gL_sI, gR_sI, kd_sL, ln_sL, hl_sL, gI_sL, gR_sL, kd_sR, ln_sR, hl_sR, gI_sR, gL_sR, kd_cpI, ln_cpI, hl_cpI, gL_cpI, gR_cpI, gI_cpI, gI_sI, gL_sL, gR_sR, St_sI, St_sL, St_cpI, Nat.reduceEqDiff, Nat.reduceAdd, eq_self, false_and, and_false, true_and, and_true, and_self, if_true, if_false, false_or, or_false, true_or, or_true, not_true_eq_false, not_false_eq_true, reduceIte, K_66, F_66_0, F_66_10, F_66_11, F_66_12, F_66_13, F_66_14, F_66_15, F_66_16, F_66_17, F_66_18, F_66_25, F_66_26, F_66_27, F_66_28, F_66_29, F_66_30, F_66_31, F_66_32, F_66_33, F_66_34, F_66_35, F_66_36, F_66_37, F_66_38, F_66_39, F_66_60, F_66_61, F_66_62, F_66_63, F_66_66, F_66_68, F_66_69, F_66_71, F_66_72, F_66_73, F_66_74, F_66_77, F_66_78, F_66_79, F_66_80, F_66_81, F_66_84, F_66_85, F_66_86, F_66_87, a1, a5, lgc_eq, d]
  · rw [decide_eq_false (fun z => c z.1), b2i_f]
    have c2 : ¬ kM t = 1 := by rw [kM_1 ht]; exact c
    simp (disch := first | assumption | exact b2i_01 _ | decide | omega | (simp only [kd_sI, ln_sI, hl_sI, gL_sI, gR_sI, kd_sL, ln_sL, hl_sL, gI_sL, gR_sL, kd_sR, ln_sR, hl_sR, gI_sR, gL_sR, kd_cpI, ln_cpI, hl_cpI, gL_cpI, gR_cpI, gI_cpI, gI_sI, gL_sL, gR_sR, St_sI, St_sL, St_cpI, Nat.reduceEqDiff, Nat.reduceAdd, eq_self, false_and, and_false, true_and, and_true, and_self, if_true, if_false, false_or, or_false, true_or, or_true, not_true_eq_false, not_false_eq_true, reduceIte, K_66, F_66_0, F_66_10, F_66_11, F_66_12, F_66_13, F_66_14, F_66_15, F_66_16, F_66_17, F_66_18, F_66_25, F_66_26, F_66_27, F_66_28, F_66_29, F_66_30, F_66_31, F_66_32, F_66_33, F_66_34, F_66_35, F_66_36, F_66_37, F_66_38, F_66_39, F_66_60, F_66_61, F_66_62, F_66_63, F_66_66, F_66_68, F_66_69, F_66_71, F_66_72, F_66_73, F_66_74, F_66_77, F_66_78, F_66_79, F_66_80, F_66_81, F_66_84, F_66_85, F_66_86, F_66_87, hS, a1, c2] <;> first | done | decide | omega | fail) | fail) only [B_217_0, e_aload_n_0, G_1206, e_iconst_1, e_ic_ne, G_1209, e_lload_n_1, e_lcmp, e_if_ne, e_goto, T_217_21, B_217_21, e_iconst_0, e_gotow, T_217_22, B_217_22, R_217, eq_self, true_or, or_true, b2i_or, kd_sI, ln_sI, hl_sI, gL_sI, gR_sI, kd_sL, ln_sL, hl_sL, gI_sL, gR_sL, kd_sR, ln_sR, hl_sR, gI_sR, gL_sR, kd_cpI, ln_cpI, hl_cpI, gL_cpI, gR_cpI, gI_cpI, gI_sI, gL_sL, gR_sR, St_sI, St_sL, St_cpI, Nat.reduceEqDiff, Nat.reduceAdd, eq_self, false_and, and_false, true_and, and_true, and_self, if_true, if_false, false_or, or_false, true_or, or_true, not_true_eq_false, not_false_eq_true, reduceIte, K_66, F_66_0, F_66_10, F_66_11, F_66_12, F_66_13, F_66_14, F_66_15, F_66_16, F_66_17, F_66_18, F_66_25, F_66_26, F_66_27, F_66_28, F_66_29, F_66_30, F_66_31, F_66_32, F_66_33, F_66_34, F_66_35, F_66_36, F_66_37, F_66_38, F_66_39, F_66_60, F_66_61, F_66_62, F_66_63, F_66_66, F_66_68, F_66_69, F_66_71, F_66_72, F_66_73, F_66_74, F_66_77, F_66_78, F_66_79, F_66_80, F_66_81, F_66_84, F_66_85, F_66_86, F_66_87, a1, c2]
theorem isr_iff (w : Int64) : isr w = true ↔ (500135192948 = w ∨ 1953654117 = w ∨ 465491486066 = w ∨ 121364810985335 = w ∨ 109317142704997 = w ∨ 28526 = w ∨ 1935767923 = w ∨ 7562612 = w ∨ 28832984692515955 = w ∨ 1870030194 = w ∨ 474147546227 = w ∨ 1650553459 = w ∨ 26982 = w ∨ 6383981 = w ∨ 422607680115 = w ∨ 32498692185748083 = w ∨ 1936024932 = w ∨ 28530 = w ∨ 6385252 = w ∨ 7237492 = w) := by
  unfold isr
  rw [show rsv = [500135192948, 1953654117, 465491486066, 121364810985335, 109317142704997, 28526, 1935767923, 7562612, 28832984692515955, 1870030194, 474147546227, 1650553459, 26982, 6383981, 422607680115, 32498692185748083, 1936024932, 28530, 6385252, 7237492] from rfl]
  simp only [List.any_cons, List.any_nil, Bool.or_eq_true, beq_iff_eq, Bool.false_eq_true, or_false]
theorem s_Mo_isOwn {w : Int64} {h : MH} (hS : St h) (hw : gL h 66 9 = w) {μ : Nat} (hμ : 3 < μ) : cal 221 [.ref 66] μ h = some (some (.int (b2i (isr w))), h) := by
  rw [C_221 66  μ _ (K_66 hS) (by decide) hμ]
  cases c : isr w with
  | true =>
    rw [b2i_t]
    have k := (isr_iff w).mp c
    rcases k with k | k | k | k | k | k | k | k | k | k | k | k | k | k | k | k | k | k | k | k
    all_goals (rw [← k] at hw; clear k c; simp (decide := true) (disch := first | assumption | decide | (simp only [kd_sI, ln_sI, hl_sI, gL_sI, gR_sI, kd_sL, ln_sL, hl_sL, gI_sL, gR_sL, kd_sR, ln_sR, hl_sR, gI_sR, gL_sR, kd_cpI, ln_cpI, hl_cpI, gL_cpI, gR_cpI, gI_cpI, gI_sI, gL_sL, gR_sR, St_sI, St_sL, St_cpI, Nat.reduceEqDiff, Nat.reduceAdd, eq_self, false_and, and_false, true_and, and_true, and_self, if_true, if_false, false_or, or_false, true_or, or_true, not_true_eq_false, not_false_eq_true, reduceIte, K_66, F_66_0, F_66_10, F_66_11, F_66_12, F_66_13, F_66_14, F_66_15, F_66_16, F_66_17, F_66_18, F_66_25, F_66_26, F_66_27, F_66_28, F_66_29, F_66_30, F_66_31, F_66_32, F_66_33, F_66_34, F_66_35, F_66_36, F_66_37, F_66_38, F_66_39, F_66_60, F_66_61, F_66_62, F_66_63, F_66_66, F_66_68, F_66_69, F_66_71, F_66_72, F_66_73, F_66_74, F_66_77, F_66_78, F_66_79, F_66_80, F_66_81, F_66_84, F_66_85, F_66_86, F_66_87, hS]; done)) only [B_221_0, e_aload_n_0, G_1209, e_ldc2_500135192948, e_lcmp, e_if_eq, e_ldc2_1953654117, e_ldc2_465491486066, e_ldc2_121364810985335, e_ldc2_109317142704997, e_ldc2_28526, e_ldc2_1935767923, e_ldc2_7562612, e_ldc2_28832984692515955, e_ldc2_1870030194, e_ldc2_474147546227, e_ldc2_1650553459, e_ldc2_26982, e_ldc2_6383981, e_ldc2_422607680115, e_ldc2_32498692185748083, e_ldc2_1936024932, e_ldc2_6385252, e_ldc2_28530, e_ldc2_7237492, e_if_ne, e_gotow, T_221_220, B_221_220, e_iconst_1, e_goto, T_221_224, B_221_224, e_iconst_0, T_221_225, B_221_225, R_221, eq_self, true_or, or_true, b2i_or, kd_sI, ln_sI, hl_sI, gL_sI, gR_sI, kd_sL, ln_sL, hl_sL, gI_sL, gR_sL, kd_sR, ln_sR, hl_sR, gI_sR, gL_sR, kd_cpI, ln_cpI, hl_cpI, gL_cpI, gR_cpI, gI_cpI, gI_sI, gL_sL, gR_sR, St_sI, St_sL, St_cpI, Nat.reduceEqDiff, Nat.reduceAdd, eq_self, false_and, and_false, true_and, and_true, and_self, if_true, if_false, false_or, or_false, true_or, or_true, not_true_eq_false, not_false_eq_true, reduceIte, K_66, F_66_0, F_66_10, F_66_11, F_66_12, F_66_13, F_66_14, F_66_15, F_66_16, F_66_17, F_66_18, F_66_25, F_66_26, F_66_27, F_66_28, F_66_29, F_66_30, F_66_31, F_66_32, F_66_33, F_66_34, F_66_35, F_66_36, F_66_37, F_66_38, F_66_39, F_66_60, F_66_61, F_66_62, F_66_63, F_66_66, F_66_68, F_66_69, F_66_71, F_66_72, F_66_73, F_66_74, F_66_77, F_66_78, F_66_79, F_66_80, F_66_81, F_66_84, F_66_85, F_66_86, F_66_87, hw, lgc_eq])
  | false =>
    rw [b2i_f]
    have k := mt (isr_iff w).mpr (by rw [c]; decide)
    simp only [not_or] at k
    obtain ⟨k1, k2, k3, k4, k5, k6, k7, k8, k9, k10, k11, k12, k13, k14, k15, k16, k17, k18, k19, k20⟩ := k
    simp (disch := first | assumption | exact b2i_01 _ | decide | omega | (simp only [kd_sI, ln_sI, hl_sI, gL_sI, gR_sI, kd_sL, ln_sL, hl_sL, gI_sL, gR_sL, kd_sR, ln_sR, hl_sR, gI_sR, gL_sR, kd_cpI, ln_cpI, hl_cpI, gL_cpI, gR_cpI, gI_cpI, gI_sI, gL_sL, gR_sR, St_sI, St_sL, St_cpI, Nat.reduceEqDiff, Nat.reduceAdd, eq_self, false_and, and_false, true_and, and_true, and_self, if_true, if_false, false_or, or_false, true_or, or_true, not_true_eq_false, not_false_eq_true, reduceIte, K_66, F_66_0, F_66_10, F_66_11, F_66_12, F_66_13, F_66_14, F_66_15, F_66_16, F_66_17, F_66_18, F_66_25, F_66_26, F_66_27, F_66_28, F_66_29, F_66_30, F_66_31, F_66_32, F_66_33, F_66_34, F_66_35, F_66_36, F_66_37, F_66_38, F_66_39, F_66_60, F_66_61, F_66_62, F_66_63, F_66_66, F_66_68, F_66_69, F_66_71, F_66_72, F_66_73, F_66_74, F_66_77, F_66_78, F_66_79, F_66_80, F_66_81, F_66_84, F_66_85, F_66_86, F_66_87, hS, hw, lgc_eq, Ne.symm k1, Ne.symm k2, Ne.symm k3, Ne.symm k4, Ne.symm k5, Ne.symm k6, Ne.symm k7, Ne.symm k8, Ne.symm k9, Ne.symm k10, Ne.symm k11, Ne.symm k12, Ne.symm k13, Ne.symm k14, Ne.symm k15, Ne.symm k16, Ne.symm k17, Ne.symm k18, Ne.symm k19, Ne.symm k20] <;> first | done | decide | omega | fail) | fail) only [B_221_0, e_aload_n_0, G_1209, e_ldc2_500135192948, e_lcmp, e_if_eq, e_ldc2_1953654117, e_ldc2_465491486066, e_ldc2_121364810985335, e_ldc2_109317142704997, e_ldc2_28526, e_ldc2_1935767923, e_ldc2_7562612, e_ldc2_28832984692515955, e_ldc2_1870030194, e_ldc2_474147546227, e_ldc2_1650553459, e_ldc2_26982, e_ldc2_6383981, e_ldc2_422607680115, e_ldc2_32498692185748083, e_ldc2_1936024932, e_ldc2_6385252, e_ldc2_28530, e_ldc2_7237492, e_if_ne, e_gotow, T_221_220, B_221_220, e_iconst_1, e_goto, T_221_224, B_221_224, e_iconst_0, T_221_225, B_221_225, R_221, eq_self, true_or, or_true, b2i_or, kd_sI, ln_sI, hl_sI, gL_sI, gR_sI, kd_sL, ln_sL, hl_sL, gI_sL, gR_sL, kd_sR, ln_sR, hl_sR, gI_sR, gL_sR, kd_cpI, ln_cpI, hl_cpI, gL_cpI, gR_cpI, gI_cpI, gI_sI, gL_sL, gR_sR, St_sI, St_sL, St_cpI, Nat.reduceEqDiff, Nat.reduceAdd, eq_self, false_and, and_false, true_and, and_true, and_self, if_true, if_false, false_or, or_false, true_or, or_true, not_true_eq_false, not_false_eq_true, reduceIte, K_66, F_66_0, F_66_10, F_66_11, F_66_12, F_66_13, F_66_14, F_66_15, F_66_16, F_66_17, F_66_18, F_66_25, F_66_26, F_66_27, F_66_28, F_66_29, F_66_30, F_66_31, F_66_32, F_66_33, F_66_34, F_66_35, F_66_36, F_66_37, F_66_38, F_66_39, F_66_60, F_66_61, F_66_62, F_66_63, F_66_66, F_66_68, F_66_69, F_66_71, F_66_72, F_66_73, F_66_74, F_66_77, F_66_78, F_66_79, F_66_80, F_66_81, F_66_84, F_66_85, F_66_86, F_66_87, hw, lgc_eq, Ne.symm k1, Ne.symm k2, Ne.symm k3, Ne.symm k4, Ne.symm k5, Ne.symm k6, Ne.symm k7, Ne.symm k8, Ne.symm k9, Ne.symm k10, Ne.symm k11, Ne.symm k12, Ne.symm k13, Ne.symm k14, Ne.symm k15, Ne.symm k16, Ne.symm k17, Ne.symm k18, Ne.symm k19, Ne.symm k20]
theorem s_Mo_isName {t : Tk} {h : MH} (hS : St h) (hk : TokM t h) (ht : TkO t) {μ : Nat} (hμ : 4 < μ) : cal 220 [.ref 66] μ h = some (some (.int (b2i (nam t))), h) := by
  obtain ⟨a1, a2, a3, a4, a5⟩ := hk
  have e10 : ((1 : Int32) = 0) = False := by simp
  rw [C_220 66  μ _ (K_66 hS) (by decide) hμ]
  unfold nam
  by_cases c : tkK t = 2
  · have a5 := a5 c
    have a1 : gI h 66 6 = 1 := by rw [a1, kM_1 ht]; exact c
    have w := s_Mo_isOwn hS a5 (μ := 4) (by omega)
    rw [c]
    cases d : isr (tkW t) with
    | true =>
      rw [d, b2i_t] at w
      simp (disch := first | assumption | exact b2i_01 _ | decide | omega | (simp only [kd_sI, ln_sI, hl_sI, gL_sI, gR_sI, kd_sL, ln_sL, hl_sL, gI_sL, gR_sL, kd_sR, ln_sR, hl_sR, gI_sR, gL_sR, kd_cpI, ln_cpI, hl_cpI, gL_cpI, gR_cpI, gI_cpI, gI_sI, gL_sL, gR_sR, St_sI, St_sL, St_cpI, Nat.reduceEqDiff, Nat.reduceAdd, eq_self, false_and, and_false, true_and, and_true, and_self, if_true, if_false, false_or, or_false, true_or, or_true, not_true_eq_false, not_false_eq_true, reduceIte, K_66, F_66_0, F_66_10, F_66_11, F_66_12, F_66_13, F_66_14, F_66_15, F_66_16, F_66_17, F_66_18, F_66_25, F_66_26, F_66_27, F_66_28, F_66_29, F_66_30, F_66_31, F_66_32, F_66_33, F_66_34, F_66_35, F_66_36, F_66_37, F_66_38, F_66_39, F_66_60, F_66_61, F_66_62, F_66_63, F_66_66, F_66_68, F_66_69, F_66_71, F_66_72, F_66_73, F_66_74, F_66_77, F_66_78, F_66_79, F_66_80, F_66_81, F_66_84, F_66_85, F_66_86, F_66_87, hS, a1, w, e10, List.length_nil, List.length_cons, Nat.zero_le] <;> first | done | decide | omega | fail) | fail) only [B_220_0, e_aload_n_0, G_1206, e_iconst_1, e_ic_ne, e_call_1, psh_s, psh_n, Option.bind_some, e_if_ne, e_goto, T_220_19, B_220_19, e_iconst_0, e_gotow, T_220_20, B_220_20, R_220, eq_self, true_or, or_true, b2i_or, kd_sI, ln_sI, hl_sI, gL_sI, gR_sI, kd_sL, ln_sL, hl_sL, gI_sL, gR_sL, kd_sR, ln_sR, hl_sR, gI_sR, gL_sR, kd_cpI, ln_cpI, hl_cpI, gL_cpI, gR_cpI, gI_cpI, gI_sI, gL_sL, gR_sR, St_sI, St_sL, St_cpI, Nat.reduceEqDiff, Nat.reduceAdd, eq_self, false_and, and_false, true_and, and_true, and_self, if_true, if_false, false_or, or_false, true_or, or_true, not_true_eq_false, not_false_eq_true, reduceIte, K_66, F_66_0, F_66_10, F_66_11, F_66_12, F_66_13, F_66_14, F_66_15, F_66_16, F_66_17, F_66_18, F_66_25, F_66_26, F_66_27, F_66_28, F_66_29, F_66_30, F_66_31, F_66_32, F_66_33, F_66_34, F_66_35, F_66_36, F_66_37, F_66_38, F_66_39, F_66_60, F_66_61, F_66_62, F_66_63, F_66_66, F_66_68, F_66_69, F_66_71, F_66_72, F_66_73, F_66_74, F_66_77, F_66_78, F_66_79, F_66_80, F_66_81, F_66_84, F_66_85, F_66_86, F_66_87, a1, w, e10, List.length_nil, List.length_cons, Nat.zero_le]
      rfl
    | false =>
      rw [d, b2i_f] at w
      simp (disch := first | assumption | exact b2i_01 _ | decide | omega | (simp only [kd_sI, ln_sI, hl_sI, gL_sI, gR_sI, kd_sL, ln_sL, hl_sL, gI_sL, gR_sL, kd_sR, ln_sR, hl_sR, gI_sR, gL_sR, kd_cpI, ln_cpI, hl_cpI, gL_cpI, gR_cpI, gI_cpI, gI_sI, gL_sL, gR_sR, St_sI, St_sL, St_cpI, Nat.reduceEqDiff, Nat.reduceAdd, eq_self, false_and, and_false, true_and, and_true, and_self, if_true, if_false, false_or, or_false, true_or, or_true, not_true_eq_false, not_false_eq_true, reduceIte, K_66, F_66_0, F_66_10, F_66_11, F_66_12, F_66_13, F_66_14, F_66_15, F_66_16, F_66_17, F_66_18, F_66_25, F_66_26, F_66_27, F_66_28, F_66_29, F_66_30, F_66_31, F_66_32, F_66_33, F_66_34, F_66_35, F_66_36, F_66_37, F_66_38, F_66_39, F_66_60, F_66_61, F_66_62, F_66_63, F_66_66, F_66_68, F_66_69, F_66_71, F_66_72, F_66_73, F_66_74, F_66_77, F_66_78, F_66_79, F_66_80, F_66_81, F_66_84, F_66_85, F_66_86, F_66_87, hS, a1, w, e10, List.length_nil, List.length_cons, Nat.zero_le] <;> first | done | decide | omega | fail) | fail) only [B_220_0, e_aload_n_0, G_1206, e_iconst_1, e_ic_ne, e_call_1, psh_s, psh_n, Option.bind_some, e_if_ne, e_goto, T_220_19, B_220_19, e_iconst_0, e_gotow, T_220_20, B_220_20, R_220, eq_self, true_or, or_true, b2i_or, kd_sI, ln_sI, hl_sI, gL_sI, gR_sI, kd_sL, ln_sL, hl_sL, gI_sL, gR_sL, kd_sR, ln_sR, hl_sR, gI_sR, gL_sR, kd_cpI, ln_cpI, hl_cpI, gL_cpI, gR_cpI, gI_cpI, gI_sI, gL_sL, gR_sR, St_sI, St_sL, St_cpI, Nat.reduceEqDiff, Nat.reduceAdd, eq_self, false_and, and_false, true_and, and_true, and_self, if_true, if_false, false_or, or_false, true_or, or_true, not_true_eq_false, not_false_eq_true, reduceIte, K_66, F_66_0, F_66_10, F_66_11, F_66_12, F_66_13, F_66_14, F_66_15, F_66_16, F_66_17, F_66_18, F_66_25, F_66_26, F_66_27, F_66_28, F_66_29, F_66_30, F_66_31, F_66_32, F_66_33, F_66_34, F_66_35, F_66_36, F_66_37, F_66_38, F_66_39, F_66_60, F_66_61, F_66_62, F_66_63, F_66_66, F_66_68, F_66_69, F_66_71, F_66_72, F_66_73, F_66_74, F_66_77, F_66_78, F_66_79, F_66_80, F_66_81, F_66_84, F_66_85, F_66_86, F_66_87, a1, w, e10, List.length_nil, List.length_cons, Nat.zero_le]
      rfl
  · rw [show (tkK t == 2) = false by simpa using c, Bool.false_and, b2i_f]
    have c2 : ¬ kM t = 1 := by rw [kM_1 ht]; exact c
    simp (disch := first | assumption | exact b2i_01 _ | decide | omega | (simp only [kd_sI, ln_sI, hl_sI, gL_sI, gR_sI, kd_sL, ln_sL, hl_sL, gI_sL, gR_sL, kd_sR, ln_sR, hl_sR, gI_sR, gL_sR, kd_cpI, ln_cpI, hl_cpI, gL_cpI, gR_cpI, gI_cpI, gI_sI, gL_sL, gR_sR, St_sI, St_sL, St_cpI, Nat.reduceEqDiff, Nat.reduceAdd, eq_self, false_and, and_false, true_and, and_true, and_self, if_true, if_false, false_or, or_false, true_or, or_true, not_true_eq_false, not_false_eq_true, reduceIte, K_66, F_66_0, F_66_10, F_66_11, F_66_12, F_66_13, F_66_14, F_66_15, F_66_16, F_66_17, F_66_18, F_66_25, F_66_26, F_66_27, F_66_28, F_66_29, F_66_30, F_66_31, F_66_32, F_66_33, F_66_34, F_66_35, F_66_36, F_66_37, F_66_38, F_66_39, F_66_60, F_66_61, F_66_62, F_66_63, F_66_66, F_66_68, F_66_69, F_66_71, F_66_72, F_66_73, F_66_74, F_66_77, F_66_78, F_66_79, F_66_80, F_66_81, F_66_84, F_66_85, F_66_86, F_66_87, hS, a1, c2] <;> first | done | decide | omega | fail) | fail) only [B_220_0, e_aload_n_0, G_1206, e_iconst_1, e_ic_ne, e_call_1, psh_s, psh_n, Option.bind_some, e_if_ne, e_goto, T_220_19, B_220_19, e_iconst_0, e_gotow, T_220_20, B_220_20, R_220, eq_self, true_or, or_true, b2i_or, kd_sI, ln_sI, hl_sI, gL_sI, gR_sI, kd_sL, ln_sL, hl_sL, gI_sL, gR_sL, kd_sR, ln_sR, hl_sR, gI_sR, gL_sR, kd_cpI, ln_cpI, hl_cpI, gL_cpI, gR_cpI, gI_cpI, gI_sI, gL_sL, gR_sR, St_sI, St_sL, St_cpI, Nat.reduceEqDiff, Nat.reduceAdd, eq_self, false_and, and_false, true_and, and_true, and_self, if_true, if_false, false_or, or_false, true_or, or_true, not_true_eq_false, not_false_eq_true, reduceIte, K_66, F_66_0, F_66_10, F_66_11, F_66_12, F_66_13, F_66_14, F_66_15, F_66_16, F_66_17, F_66_18, F_66_25, F_66_26, F_66_27, F_66_28, F_66_29, F_66_30, F_66_31, F_66_32, F_66_33, F_66_34, F_66_35, F_66_36, F_66_37, F_66_38, F_66_39, F_66_60, F_66_61, F_66_62, F_66_63, F_66_66, F_66_68, F_66_69, F_66_71, F_66_72, F_66_73, F_66_74, F_66_77, F_66_78, F_66_79, F_66_80, F_66_81, F_66_84, F_66_85, F_66_86, F_66_87, a1, c2]
/-- a fault -/
def BM (c p : Nat) (h : MH) : Prop := St h ∧ gI h 66 2 = nI c ∧ gI h 66 3 = nI p ∧ 0 < c ∧ c ≤ 6
theorem BM.nz {c p : Nat} {h : MH} (hB : BM c p h) : ¬ gI h 66 2 = 0 ∧ ¬ gI h 66 2 ≤ 0 := by
  obtain ⟨-, a, -, b1, b2⟩ := hB
  rw [a]
  refine ⟨nI_nz b1 (by omega), ?_⟩
  rw [nI_nle0 b1 (by omega)]
  exact id
theorem s_Mo_wrongB {h : MH} (hS : St h) (hf : ¬ gI h 66 2 ≤ 0) (c : Int32) {μ : Nat} (hμ : 3 < μ) : cal 222 [.ref 66, .int c] μ h = some (none, h) := by
  rw [C_222 66 _ μ _ (K_66 hS) (by decide) hμ]
  simp (disch := first | assumption | exact b2i_01 _ | decide | omega | (simp only [kd_sI, ln_sI, hl_sI, gL_sI, gR_sI, kd_sL, ln_sL, hl_sL, gI_sL, gR_sL, kd_sR, ln_sR, hl_sR, gI_sR, gL_sR, kd_cpI, ln_cpI, hl_cpI, gL_cpI, gR_cpI, gI_cpI, gI_sI, gL_sL, gR_sR, St_sI, St_sL, St_cpI, Nat.reduceEqDiff, Nat.reduceAdd, eq_self, false_and, and_false, true_and, and_true, and_self, if_true, if_false, false_or, or_false, true_or, or_true, not_true_eq_false, not_false_eq_true, reduceIte, K_66, F_66_0, F_66_10, F_66_11, F_66_12, F_66_13, F_66_14, F_66_15, F_66_16, F_66_17, F_66_18, F_66_25, F_66_26, F_66_27, F_66_28, F_66_29, F_66_30, F_66_31, F_66_32, F_66_33, F_66_34, F_66_35, F_66_36, F_66_37, F_66_38, F_66_39, F_66_60, F_66_61, F_66_62, F_66_63, F_66_66, F_66_68, F_66_69, F_66_71, F_66_72, F_66_73, F_66_74, F_66_77, F_66_78, F_66_79, F_66_80, F_66_81, F_66_84, F_66_85, F_66_86, F_66_87, hS, hf] <;> first | done | decide | omega | fail) | fail) only [B_222_0, e_aload_n_0, G_1202, e_if_le, R_222, T_222_8, B_222_8, G_1206, e_iconst_3, e_ic_ne, e_iconst_1, e_goto, T_222_21, B_222_21, e_iload_n_1, e_gotow, T_222_22, B_222_22, P_1202, G_1207, P_1203, kd_sI, ln_sI, hl_sI, gL_sI, gR_sI, kd_sL, ln_sL, hl_sL, gI_sL, gR_sL, kd_sR, ln_sR, hl_sR, gI_sR, gL_sR, kd_cpI, ln_cpI, hl_cpI, gL_cpI, gR_cpI, gI_cpI, gI_sI, gL_sL, gR_sR, St_sI, St_sL, St_cpI, Nat.reduceEqDiff, Nat.reduceAdd, eq_self, false_and, and_false, true_and, and_true, and_self, if_true, if_false, false_or, or_false, true_or, or_true, not_true_eq_false, not_false_eq_true, reduceIte, K_66, F_66_0, F_66_10, F_66_11, F_66_12, F_66_13, F_66_14, F_66_15, F_66_16, F_66_17, F_66_18, F_66_25, F_66_26, F_66_27, F_66_28, F_66_29, F_66_30, F_66_31, F_66_32, F_66_33, F_66_34, F_66_35, F_66_36, F_66_37, F_66_38, F_66_39, F_66_60, F_66_61, F_66_62, F_66_63, F_66_66, F_66_68, F_66_69, F_66_71, F_66_72, F_66_73, F_66_74, F_66_77, F_66_78, F_66_79, F_66_80, F_66_81, F_66_84, F_66_85, F_66_86, F_66_87, hf]
theorem s_Mo_wrong {t : Tk} {h : MH} (hS : St h) (hk : TokM t h) (ht : TkO t) (hf : gI h 66 2 = 0) {c : Nat} (hc : 0 < c) (hc6 : c ≤ 6) {μ : Nat} (hμ : 3 < μ) : ∃ h', cal 222 [.ref 66, .int (nI c)] μ h = some (none, h') ∧ BM (if tkK t = 1 then 1 else c) (tkS t) h' ∧ Sm h h' [(66, some 2), (66, some 3)] := by
  obtain ⟨a1, a2, a3, a4, a5⟩ := hk
  have l0 : ((0 : Int32) ≤ 0) = True := by decide
  refine ⟨sI (sI h 66 2 (nI (if tkK t = 1 then 1 else c))) 66 3 (nI (tkS t)), ?_, ⟨by simpa only [kd_sI, ln_sI, hl_sI, gL_sI, gR_sI, kd_sL, ln_sL, hl_sL, gI_sL, gR_sL, kd_sR, ln_sR, hl_sR, gI_sR, gL_sR, kd_cpI, ln_cpI, hl_cpI, gL_cpI, gR_cpI, gI_cpI, gI_sI, gL_sL, gR_sR, St_sI, St_sL, St_cpI, Nat.reduceEqDiff, Nat.reduceAdd, eq_self, false_and, and_false, true_and, and_true, and_self, if_true, if_false, false_or, or_false, true_or, or_true, not_true_eq_false, not_false_eq_true, reduceIte] using hS, by simp only [kd_sI, ln_sI, hl_sI, gL_sI, gR_sI, kd_sL, ln_sL, hl_sL, gI_sL, gR_sL, kd_sR, ln_sR, hl_sR, gI_sR, gL_sR, kd_cpI, ln_cpI, hl_cpI, gL_cpI, gR_cpI, gI_cpI, gI_sI, gL_sL, gR_sR, St_sI, St_sL, St_cpI, Nat.reduceEqDiff, Nat.reduceAdd, eq_self, false_and, and_false, true_and, and_true, and_self, if_true, if_false, false_or, or_false, true_or, or_true, not_true_eq_false, not_false_eq_true, reduceIte], by simp only [kd_sI, ln_sI, hl_sI, gL_sI, gR_sI, kd_sL, ln_sL, hl_sL, gI_sL, gR_sL, kd_sR, ln_sR, hl_sR, gI_sR, gL_sR, kd_cpI, ln_cpI, hl_cpI, gL_cpI, gR_cpI, gI_cpI, gI_sI, gL_sL, gR_sR, St_sI, St_sL, St_cpI, Nat.reduceEqDiff, Nat.reduceAdd, eq_self, false_and, and_false, true_and, and_true, and_self, if_true, if_false, false_or, or_false, true_or, or_true, not_true_eq_false, not_false_eq_true, reduceIte], ?_, ?_⟩, (((Sm.rf h _).sI rfl).sI rfl)⟩
  · rw [C_222 66 _ μ _ (K_66 hS) (by decide) hμ]
    by_cases q : tkK t = 1
    · rw [if_pos q]
      have a1 : gI h 66 6 = 3 := by rw [a1, kM_3 ht]; exact q
      simp (disch := first | assumption | exact b2i_01 _ | decide | omega | (simp only [kd_sI, ln_sI, hl_sI, gL_sI, gR_sI, kd_sL, ln_sL, hl_sL, gI_sL, gR_sL, kd_sR, ln_sR, hl_sR, gI_sR, gL_sR, kd_cpI, ln_cpI, hl_cpI, gL_cpI, gR_cpI, gI_cpI, gI_sI, gL_sL, gR_sR, St_sI, St_sL, St_cpI, Nat.reduceEqDiff, Nat.reduceAdd, eq_self, false_and, and_false, true_and, and_true, and_self, if_true, if_false, false_or, or_false, true_or, or_true, not_true_eq_false, not_false_eq_true, reduceIte, K_66, F_66_0, F_66_10, F_66_11, F_66_12, F_66_13, F_66_14, F_66_15, F_66_16, F_66_17, F_66_18, F_66_25, F_66_26, F_66_27, F_66_28, F_66_29, F_66_30, F_66_31, F_66_32, F_66_33, F_66_34, F_66_35, F_66_36, F_66_37, F_66_38, F_66_39, F_66_60, F_66_61, F_66_62, F_66_63, F_66_66, F_66_68, F_66_69, F_66_71, F_66_72, F_66_73, F_66_74, F_66_77, F_66_78, F_66_79, F_66_80, F_66_81, F_66_84, F_66_85, F_66_86, F_66_87, hS, hf, a1, a2, l0] <;> first | done | decide | omega | fail) | fail) only [B_222_0, e_aload_n_0, G_1202, e_if_le, R_222, T_222_8, B_222_8, G_1206, e_iconst_3, e_ic_ne, e_iconst_1, e_goto, T_222_21, B_222_21, e_iload_n_1, e_gotow, T_222_22, B_222_22, P_1202, G_1207, P_1203, kd_sI, ln_sI, hl_sI, gL_sI, gR_sI, kd_sL, ln_sL, hl_sL, gI_sL, gR_sL, kd_sR, ln_sR, hl_sR, gI_sR, gL_sR, kd_cpI, ln_cpI, hl_cpI, gL_cpI, gR_cpI, gI_cpI, gI_sI, gL_sL, gR_sR, St_sI, St_sL, St_cpI, Nat.reduceEqDiff, Nat.reduceAdd, eq_self, false_and, and_false, true_and, and_true, and_self, if_true, if_false, false_or, or_false, true_or, or_true, not_true_eq_false, not_false_eq_true, reduceIte, K_66, F_66_0, F_66_10, F_66_11, F_66_12, F_66_13, F_66_14, F_66_15, F_66_16, F_66_17, F_66_18, F_66_25, F_66_26, F_66_27, F_66_28, F_66_29, F_66_30, F_66_31, F_66_32, F_66_33, F_66_34, F_66_35, F_66_36, F_66_37, F_66_38, F_66_39, F_66_60, F_66_61, F_66_62, F_66_63, F_66_66, F_66_68, F_66_69, F_66_71, F_66_72, F_66_73, F_66_74, F_66_77, F_66_78, F_66_79, F_66_80, F_66_81, F_66_84, F_66_85, F_66_86, F_66_87, hf, a1, a2, l0]
      rfl
    · rw [if_neg q]
      have q2 : ¬ kM t = 3 := by rw [kM_3 ht]; exact q
      simp (disch := first | assumption | exact b2i_01 _ | decide | omega | (simp only [kd_sI, ln_sI, hl_sI, gL_sI, gR_sI, kd_sL, ln_sL, hl_sL, gI_sL, gR_sL, kd_sR, ln_sR, hl_sR, gI_sR, gL_sR, kd_cpI, ln_cpI, hl_cpI, gL_cpI, gR_cpI, gI_cpI, gI_sI, gL_sL, gR_sR, St_sI, St_sL, St_cpI, Nat.reduceEqDiff, Nat.reduceAdd, eq_self, false_and, and_false, true_and, and_true, and_self, if_true, if_false, false_or, or_false, true_or, or_true, not_true_eq_false, not_false_eq_true, reduceIte, K_66, F_66_0, F_66_10, F_66_11, F_66_12, F_66_13, F_66_14, F_66_15, F_66_16, F_66_17, F_66_18, F_66_25, F_66_26, F_66_27, F_66_28, F_66_29, F_66_30, F_66_31, F_66_32, F_66_33, F_66_34, F_66_35, F_66_36, F_66_37, F_66_38, F_66_39, F_66_60, F_66_61, F_66_62, F_66_63, F_66_66, F_66_68, F_66_69, F_66_71, F_66_72, F_66_73, F_66_74, F_66_77, F_66_78, F_66_79, F_66_80, F_66_81, F_66_84, F_66_85, F_66_86, F_66_87, hS, hf, a1, a2, q2, l0] <;> first | done | decide | omega | fail) | fail) only [B_222_0, e_aload_n_0, G_1202, e_if_le, R_222, T_222_8, B_222_8, G_1206, e_iconst_3, e_ic_ne, e_iconst_1, e_goto, T_222_21, B_222_21, e_iload_n_1, e_gotow, T_222_22, B_222_22, P_1202, G_1207, P_1203, kd_sI, ln_sI, hl_sI, gL_sI, gR_sI, kd_sL, ln_sL, hl_sL, gI_sL, gR_sL, kd_sR, ln_sR, hl_sR, gI_sR, gL_sR, kd_cpI, ln_cpI, hl_cpI, gL_cpI, gR_cpI, gI_cpI, gI_sI, gL_sL, gR_sR, St_sI, St_sL, St_cpI, Nat.reduceEqDiff, Nat.reduceAdd, eq_self, false_and, and_false, true_and, and_true, and_self, if_true, if_false, false_or, or_false, true_or, or_true, not_true_eq_false, not_false_eq_true, reduceIte, K_66, F_66_0, F_66_10, F_66_11, F_66_12, F_66_13, F_66_14, F_66_15, F_66_16, F_66_17, F_66_18, F_66_25, F_66_26, F_66_27, F_66_28, F_66_29, F_66_30, F_66_31, F_66_32, F_66_33, F_66_34, F_66_35, F_66_36, F_66_37, F_66_38, F_66_39, F_66_60, F_66_61, F_66_62, F_66_63, F_66_66, F_66_68, F_66_69, F_66_71, F_66_72, F_66_73, F_66_74, F_66_77, F_66_78, F_66_79, F_66_80, F_66_81, F_66_84, F_66_85, F_66_86, F_66_87, hf, a1, a2, q2, l0]
  · by_cases q : tkK t = 1
    · rw [if_pos q]; omega
    · rw [if_neg q]; exact hc
  · by_cases q : tkK t = 1
    · rw [if_pos q]; omega
    · rw [if_neg q]; exact hc6
/-- names as the reference holds them -/
def NmM (b : Nat) (N : List Int64) (h : MH) : Prop := N.Nodup ∧ b + N.length ≤ 20 ∧ ∀ j w, N[j]? = some w → gL h 68 (b + j) = w
theorem fnd_app {w : Int64} : ∀ (P R : List Int64), ¬ w ∈ P → fnd (P ++ R) w = P.length + fnd R w
  | [], R, _ => by simp
  | a :: P, R, h => by
    have h1 : ¬ a = w := fun z => h (by rw [z]; exact List.mem_cons_self ..)
    have h2 : ¬ w ∈ P := fun z => h (List.mem_cons_of_mem _ z)
    show (if a = w then 0 else fnd (P ++ R) w + 1) = _
    rw [if_neg h1, fnd_app P R h2, List.length_cons]
    omega
theorem fnd_no {w : Int64} : ∀ (P : List Int64), ¬ w ∈ P → fnd P w = P.length
  | [], _ => rfl
  | a :: P, h => by
    have h1 : ¬ a = w := fun z => h (by rw [z]; exact List.mem_cons_self ..)
    have h2 : ¬ w ∈ P := fun z => h (List.mem_cons_of_mem _ z)
    show (if a = w then 0 else fnd P w + 1) = _
    rw [if_neg h1, fnd_no P h2, List.length_cons]
theorem lp_find {b : Nat} {N : List Int64} {w : Int64} {h : MH} (hS : St h) (hN : NmM b N h) (hw : gL h 66 9 = w) : ∀ R P, N = P ++ R → rn 223 3 B_223_5 [some (.ref 66), some (.int (nI b)), some (.int (nI N.length)), some (.int (if w ∈ P then nI (fnd N w) else -1)), some (.int (nI P.length))] [] h = some (some (.int (fnI N w)), h) := by
  obtain ⟨n1, n2, n3⟩ := hN
  intro R
  induction R with
  | nil =>
    intro P e
    rw [List.append_nil] at e
    subst e
    rw [B_223_5]
    simp (disch := first | assumption | exact b2i_01 _ | decide | omega | (simp only [kd_sI, ln_sI, hl_sI, gL_sI, gR_sI, kd_sL, ln_sL, hl_sL, gI_sL, gR_sL, kd_sR, ln_sR, hl_sR, gI_sR, gL_sR, kd_cpI, ln_cpI, hl_cpI, gL_cpI, gR_cpI, gI_cpI, gI_sI, gL_sL, gR_sR, St_sI, St_sL, St_cpI, Nat.reduceEqDiff, Nat.reduceAdd, eq_self, false_and, and_false, true_and, and_true, and_self, if_true, if_false, false_or, or_false, true_or, or_true, not_true_eq_false, not_false_eq_true, reduceIte, K_66, F_66_0, F_66_10, F_66_11, F_66_12, F_66_13, F_66_14, F_66_15, F_66_16, F_66_17, F_66_18, F_66_25, F_66_26, F_66_27, F_66_28, F_66_29, F_66_30, F_66_31, F_66_32, F_66_33, F_66_34, F_66_35, F_66_36, F_66_37, F_66_38, F_66_39, F_66_60, F_66_61, F_66_62, F_66_63, F_66_66, F_66_68, F_66_69, F_66_71, F_66_72, F_66_73, F_66_74, F_66_77, F_66_78, F_66_79, F_66_80, F_66_81, F_66_84, F_66_85, F_66_86, F_66_87, hS, (eq_true (by simp (disch := omega) only [nI_lit, nI_add, lt_nI, le_nI, eq_nI] <;> omega) : (nI N.length ≤ nI N.length) = True)] <;> first | done | decide | omega | fail) | fail) only [B_223_0, e_iconst_m1, e_istore_n_3, clr_i, clr_l, clr_a, clr_n, e_iconst_0, e_istore_4, e_gotow, T_223_5, e_iload_4, e_iload_n_2, e_ic_ge, e_aload_n_0, G_1210, e_iload_n_1, e_iadd, e_laload, G_1209, e_lcmp, e_if_ne, e_goto, T_223_33, B_223_33, e_iload_n_3, T_223_34, B_223_34, e_iinc_4_1, T_223_41, B_223_41, R_223, kd_sI, ln_sI, hl_sI, gL_sI, gR_sI, kd_sL, ln_sL, hl_sL, gI_sL, gR_sL, kd_sR, ln_sR, hl_sR, gI_sR, gL_sR, kd_cpI, ln_cpI, hl_cpI, gL_cpI, gR_cpI, gI_cpI, gI_sI, gL_sL, gR_sR, St_sI, St_sL, St_cpI, Nat.reduceEqDiff, Nat.reduceAdd, eq_self, false_and, and_false, true_and, and_true, and_self, if_true, if_false, false_or, or_false, true_or, or_true, not_true_eq_false, not_false_eq_true, reduceIte, K_66, F_66_0, F_66_10, F_66_11, F_66_12, F_66_13, F_66_14, F_66_15, F_66_16, F_66_17, F_66_18, F_66_25, F_66_26, F_66_27, F_66_28, F_66_29, F_66_30, F_66_31, F_66_32, F_66_33, F_66_34, F_66_35, F_66_36, F_66_37, F_66_38, F_66_39, F_66_60, F_66_61, F_66_62, F_66_63, F_66_66, F_66_68, F_66_69, F_66_71, F_66_72, F_66_73, F_66_74, F_66_77, F_66_78, F_66_79, F_66_80, F_66_81, F_66_84, F_66_85, F_66_86, F_66_87, (eq_true (by simp (disch := omega) only [nI_lit, nI_add, lt_nI, le_nI, eq_nI] <;> omega) : (nI N.length ≤ nI N.length) = True)]
    unfold fnI
    by_cases c : w ∈ N
    · have : fnd N w < N.length := by
        obtain ⟨P, R, e⟩ := List.append_of_mem c
        have np : ¬ w ∈ P := fun z => by
          rw [e] at n1
          exact (List.nodup_append.mp n1).2.2 w z w (List.mem_cons_self ..) rfl
        rw [e, fnd_app P _ np]
        simp only [fnd, if_true, List.length_append, List.length_cons]
        omega
      rw [if_pos c, if_pos this]
    · rw [if_neg c, fnd_no N c, if_neg (by omega)]
  | cons a R ih =>
    intro P e
    have hl := congrArg List.length e
    rw [List.length_append, List.length_cons] at hl
    have g := ih (P ++ [a]) (by rw [e, List.append_assoc]; rfl)
    rw [List.length_append, List.length_singleton] at g
    have ga : gL h 68 (b + P.length) = a := n3 _ _ (by rw [e, List.getElem?_append_right (Nat.le_refl _), Nat.sub_self]; rfl)
    have ad : nI b + nI P.length = nI (b + P.length) := nI_add _ _
    have bb : inBd (nI (b + P.length)) 20 = true := inBd_nI (by omega) (by omega)
    have t := tc_nI (show b + P.length < 2147483648 by omega)
    rw [B_223_5]
    by_cases c : a = w
    · have np : ¬ w ∈ P := fun z => by
        rw [e] at n1
        exact (List.nodup_append.mp n1).2.2 w z a (List.mem_cons_self ..) c.symm
      have ef : fnd N w = P.length := by
        rw [e, fnd_app P _ np]
        simp only [fnd, if_pos c, Nat.add_zero]
      rw [if_pos (by rw [c]; simp), ef] at g
      simp (disch := first | assumption | exact b2i_01 _ | decide | omega | (simp only [kd_sI, ln_sI, hl_sI, gL_sI, gR_sI, kd_sL, ln_sL, hl_sL, gI_sL, gR_sL, kd_sR, ln_sR, hl_sR, gI_sR, gL_sR, kd_cpI, ln_cpI, hl_cpI, gL_cpI, gR_cpI, gI_cpI, gI_sI, gL_sL, gR_sR, St_sI, St_sL, St_cpI, Nat.reduceEqDiff, Nat.reduceAdd, eq_self, false_and, and_false, true_and, and_true, and_self, if_true, if_false, false_or, or_false, true_or, or_true, not_true_eq_false, not_false_eq_true, reduceIte, K_66, F_66_0, F_66_10, F_66_11, F_66_12, F_66_13, F_66_14, F_66_15, F_66_16, F_66_17, F_66_18, F_66_25, F_66_26, F_66_27, F_66_28, F_66_29, F_66_30, F_66_31, F_66_32, F_66_33, F_66_34, F_66_35, F_66_36, F_66_37, F_66_38, F_66_39, F_66_60, F_66_61, F_66_62, F_66_63, F_66_66, F_66_68, F_66_69, F_66_71, F_66_72, F_66_73, F_66_74, F_66_77, F_66_78, F_66_79, F_66_80, F_66_81, F_66_84, F_66_85, F_66_86, F_66_87, K_68, N_68, hS, (eq_false (by simp (disch := omega) only [nI_lit, nI_add, lt_nI, le_nI, eq_nI] <;> omega) : (nI N.length ≤ nI P.length) = False), ad, bb, t, ga, hw, lgc_eq, c, nI_1, g] <;> first | done | decide | omega | fail) | fail) only [B_223_0, e_iconst_m1, e_istore_n_3, clr_i, clr_l, clr_a, clr_n, e_iconst_0, e_istore_4, e_gotow, T_223_5, e_iload_4, e_iload_n_2, e_ic_ge, e_aload_n_0, G_1210, e_iload_n_1, e_iadd, e_laload, G_1209, e_lcmp, e_if_ne, e_goto, T_223_33, B_223_33, e_iload_n_3, T_223_34, B_223_34, e_iinc_4_1, T_223_41, B_223_41, R_223, kd_sI, ln_sI, hl_sI, gL_sI, gR_sI, kd_sL, ln_sL, hl_sL, gI_sL, gR_sL, kd_sR, ln_sR, hl_sR, gI_sR, gL_sR, kd_cpI, ln_cpI, hl_cpI, gL_cpI, gR_cpI, gI_cpI, gI_sI, gL_sL, gR_sR, St_sI, St_sL, St_cpI, Nat.reduceEqDiff, Nat.reduceAdd, eq_self, false_and, and_false, true_and, and_true, and_self, if_true, if_false, false_or, or_false, true_or, or_true, not_true_eq_false, not_false_eq_true, reduceIte, K_66, F_66_0, F_66_10, F_66_11, F_66_12, F_66_13, F_66_14, F_66_15, F_66_16, F_66_17, F_66_18, F_66_25, F_66_26, F_66_27, F_66_28, F_66_29, F_66_30, F_66_31, F_66_32, F_66_33, F_66_34, F_66_35, F_66_36, F_66_37, F_66_38, F_66_39, F_66_60, F_66_61, F_66_62, F_66_63, F_66_66, F_66_68, F_66_69, F_66_71, F_66_72, F_66_73, F_66_74, F_66_77, F_66_78, F_66_79, F_66_80, F_66_81, F_66_84, F_66_85, F_66_86, F_66_87, K_68, N_68, (eq_false (by simp (disch := omega) only [nI_lit, nI_add, lt_nI, le_nI, eq_nI] <;> omega) : (nI N.length ≤ nI P.length) = False), ad, bb, t, ga, hw, lgc_eq, c, nI_1, g]
    · have em : (w ∈ P ++ [a]) = (w ∈ P) := by
        apply propext
        simp only [List.mem_append, List.mem_singleton]
        exact ⟨fun z => z.elim id (fun y => absurd y.symm c), Or.inl⟩
      by_cases dd : w ∈ P
      · rw [if_pos (by rw [em]; exact dd)] at g
        rw [if_pos dd]
        simp (disch := first | assumption | exact b2i_01 _ | decide | omega | (simp only [kd_sI, ln_sI, hl_sI, gL_sI, gR_sI, kd_sL, ln_sL, hl_sL, gI_sL, gR_sL, kd_sR, ln_sR, hl_sR, gI_sR, gL_sR, kd_cpI, ln_cpI, hl_cpI, gL_cpI, gR_cpI, gI_cpI, gI_sI, gL_sL, gR_sR, St_sI, St_sL, St_cpI, Nat.reduceEqDiff, Nat.reduceAdd, eq_self, false_and, and_false, true_and, and_true, and_self, if_true, if_false, false_or, or_false, true_or, or_true, not_true_eq_false, not_false_eq_true, reduceIte, K_66, F_66_0, F_66_10, F_66_11, F_66_12, F_66_13, F_66_14, F_66_15, F_66_16, F_66_17, F_66_18, F_66_25, F_66_26, F_66_27, F_66_28, F_66_29, F_66_30, F_66_31, F_66_32, F_66_33, F_66_34, F_66_35, F_66_36, F_66_37, F_66_38, F_66_39, F_66_60, F_66_61, F_66_62, F_66_63, F_66_66, F_66_68, F_66_69, F_66_71, F_66_72, F_66_73, F_66_74, F_66_77, F_66_78, F_66_79, F_66_80, F_66_81, F_66_84, F_66_85, F_66_86, F_66_87, K_68, N_68, hS, (eq_false (by simp (disch := omega) only [nI_lit, nI_add, lt_nI, le_nI, eq_nI] <;> omega) : (nI N.length ≤ nI P.length) = False), ad, bb, t, ga, hw, lgc_eq, c, nI_1, g] <;> first | done | decide | omega | fail) | fail) only [B_223_0, e_iconst_m1, e_istore_n_3, clr_i, clr_l, clr_a, clr_n, e_iconst_0, e_istore_4, e_gotow, T_223_5, e_iload_4, e_iload_n_2, e_ic_ge, e_aload_n_0, G_1210, e_iload_n_1, e_iadd, e_laload, G_1209, e_lcmp, e_if_ne, e_goto, T_223_33, B_223_33, e_iload_n_3, T_223_34, B_223_34, e_iinc_4_1, T_223_41, B_223_41, R_223, kd_sI, ln_sI, hl_sI, gL_sI, gR_sI, kd_sL, ln_sL, hl_sL, gI_sL, gR_sL, kd_sR, ln_sR, hl_sR, gI_sR, gL_sR, kd_cpI, ln_cpI, hl_cpI, gL_cpI, gR_cpI, gI_cpI, gI_sI, gL_sL, gR_sR, St_sI, St_sL, St_cpI, Nat.reduceEqDiff, Nat.reduceAdd, eq_self, false_and, and_false, true_and, and_true, and_self, if_true, if_false, false_or, or_false, true_or, or_true, not_true_eq_false, not_false_eq_true, reduceIte, K_66, F_66_0, F_66_10, F_66_11, F_66_12, F_66_13, F_66_14, F_66_15, F_66_16, F_66_17, F_66_18, F_66_25, F_66_26, F_66_27, F_66_28, F_66_29, F_66_30, F_66_31, F_66_32, F_66_33, F_66_34, F_66_35, F_66_36, F_66_37, F_66_38, F_66_39, F_66_60, F_66_61, F_66_62, F_66_63, F_66_66, F_66_68, F_66_69, F_66_71, F_66_72, F_66_73, F_66_74, F_66_77, F_66_78, F_66_79, F_66_80, F_66_81, F_66_84, F_66_85, F_66_86, F_66_87, K_68, N_68, (eq_false (by simp (disch := omega) only [nI_lit, nI_add, lt_nI, le_nI, eq_nI] <;> omega) : (nI N.length ≤ nI P.length) = False), ad, bb, t, ga, hw, lgc_eq, c, nI_1, g]
      · rw [if_neg (by rw [em]; exact dd)] at g
        rw [if_neg dd]
        simp (disch := first | assumption | exact b2i_01 _ | decide | omega | (simp only [kd_sI, ln_sI, hl_sI, gL_sI, gR_sI, kd_sL, ln_sL, hl_sL, gI_sL, gR_sL, kd_sR, ln_sR, hl_sR, gI_sR, gL_sR, kd_cpI, ln_cpI, hl_cpI, gL_cpI, gR_cpI, gI_cpI, gI_sI, gL_sL, gR_sR, St_sI, St_sL, St_cpI, Nat.reduceEqDiff, Nat.reduceAdd, eq_self, false_and, and_false, true_and, and_true, and_self, if_true, if_false, false_or, or_false, true_or, or_true, not_true_eq_false, not_false_eq_true, reduceIte, K_66, F_66_0, F_66_10, F_66_11, F_66_12, F_66_13, F_66_14, F_66_15, F_66_16, F_66_17, F_66_18, F_66_25, F_66_26, F_66_27, F_66_28, F_66_29, F_66_30, F_66_31, F_66_32, F_66_33, F_66_34, F_66_35, F_66_36, F_66_37, F_66_38, F_66_39, F_66_60, F_66_61, F_66_62, F_66_63, F_66_66, F_66_68, F_66_69, F_66_71, F_66_72, F_66_73, F_66_74, F_66_77, F_66_78, F_66_79, F_66_80, F_66_81, F_66_84, F_66_85, F_66_86, F_66_87, K_68, N_68, hS, (eq_false (by simp (disch := omega) only [nI_lit, nI_add, lt_nI, le_nI, eq_nI] <;> omega) : (nI N.length ≤ nI P.length) = False), ad, bb, t, ga, hw, lgc_eq, c, nI_1, g] <;> first | done | decide | omega | fail) | fail) only [B_223_0, e_iconst_m1, e_istore_n_3, clr_i, clr_l, clr_a, clr_n, e_iconst_0, e_istore_4, e_gotow, T_223_5, e_iload_4, e_iload_n_2, e_ic_ge, e_aload_n_0, G_1210, e_iload_n_1, e_iadd, e_laload, G_1209, e_lcmp, e_if_ne, e_goto, T_223_33, B_223_33, e_iload_n_3, T_223_34, B_223_34, e_iinc_4_1, T_223_41, B_223_41, R_223, kd_sI, ln_sI, hl_sI, gL_sI, gR_sI, kd_sL, ln_sL, hl_sL, gI_sL, gR_sL, kd_sR, ln_sR, hl_sR, gI_sR, gL_sR, kd_cpI, ln_cpI, hl_cpI, gL_cpI, gR_cpI, gI_cpI, gI_sI, gL_sL, gR_sR, St_sI, St_sL, St_cpI, Nat.reduceEqDiff, Nat.reduceAdd, eq_self, false_and, and_false, true_and, and_true, and_self, if_true, if_false, false_or, or_false, true_or, or_true, not_true_eq_false, not_false_eq_true, reduceIte, K_66, F_66_0, F_66_10, F_66_11, F_66_12, F_66_13, F_66_14, F_66_15, F_66_16, F_66_17, F_66_18, F_66_25, F_66_26, F_66_27, F_66_28, F_66_29, F_66_30, F_66_31, F_66_32, F_66_33, F_66_34, F_66_35, F_66_36, F_66_37, F_66_38, F_66_39, F_66_60, F_66_61, F_66_62, F_66_63, F_66_66, F_66_68, F_66_69, F_66_71, F_66_72, F_66_73, F_66_74, F_66_77, F_66_78, F_66_79, F_66_80, F_66_81, F_66_84, F_66_85, F_66_86, F_66_87, K_68, N_68, (eq_false (by simp (disch := omega) only [nI_lit, nI_add, lt_nI, le_nI, eq_nI] <;> omega) : (nI N.length ≤ nI P.length) = False), ad, bb, t, ga, hw, lgc_eq, c, nI_1, g]
theorem s_Mo_find {b : Nat} {N : List Int64} {w : Int64} {h : MH} (hS : St h) (hN : NmM b N h) (hw : gL h 66 9 = w) {μ : Nat} (hμ : 3 < μ) : cal 223 [.ref 66, .int (nI b), .int (nI N.length)] μ h = some (some (.int (fnI N w)), h) := by
  have g := lp_find hS hN hw N [] rfl
  rw [if_neg (by simp)] at g
  rw [C_223 66 _ _ μ _ (K_66 hS) (by decide) hμ]
  simp (disch := first | assumption | exact b2i_01 _ | decide | omega | (simp only [kd_sI, ln_sI, hl_sI, gL_sI, gR_sI, kd_sL, ln_sL, hl_sL, gI_sL, gR_sL, kd_sR, ln_sR, hl_sR, gI_sR, gL_sR, kd_cpI, ln_cpI, hl_cpI, gL_cpI, gR_cpI, gI_cpI, gI_sI, gL_sL, gR_sR, St_sI, St_sL, St_cpI, Nat.reduceEqDiff, Nat.reduceAdd, eq_self, false_and, and_false, true_and, and_true, and_self, if_true, if_false, false_or, or_false, true_or, or_true, not_true_eq_false, not_false_eq_true, reduceIte, K_66, F_66_0, F_66_10, F_66_11, F_66_12, F_66_13, F_66_14, F_66_15, F_66_16, F_66_17, F_66_18, F_66_25, F_66_26, F_66_27, F_66_28, F_66_29, F_66_30, F_66_31, F_66_32, F_66_33, F_66_34, F_66_35, F_66_36, F_66_37, F_66_38, F_66_39, F_66_60, F_66_61, F_66_62, F_66_63, F_66_66, F_66_68, F_66_69, F_66_71, F_66_72, F_66_73, F_66_74, F_66_77, F_66_78, F_66_79, F_66_80, F_66_81, F_66_84, F_66_85, F_66_86, F_66_87, hS] <;> first | done | decide | omega | fail) | fail) only [B_223_0, e_iconst_m1, e_istore_n_3, clr_i, clr_l, clr_a, clr_n, e_iconst_0, e_istore_4, e_gotow, T_223_5, e_iload_4, e_iload_n_2, e_ic_ge, e_aload_n_0, G_1210, e_iload_n_1, e_iadd, e_laload, G_1209, e_lcmp, e_if_ne, e_goto, T_223_33, B_223_33, e_iload_n_3, T_223_34, B_223_34, e_iinc_4_1, T_223_41, B_223_41, R_223, kd_sI, ln_sI, hl_sI, gL_sI, gR_sI, kd_sL, ln_sL, hl_sL, gI_sL, gR_sL, kd_sR, ln_sR, hl_sR, gI_sR, gL_sR, kd_cpI, ln_cpI, hl_cpI, gL_cpI, gR_cpI, gI_cpI, gI_sI, gL_sL, gR_sR, St_sI, St_sL, St_cpI, Nat.reduceEqDiff, Nat.reduceAdd, eq_self, false_and, and_false, true_and, and_true, and_self, if_true, if_false, false_or, or_false, true_or, or_true, not_true_eq_false, not_false_eq_true, reduceIte, K_66, F_66_0, F_66_10, F_66_11, F_66_12, F_66_13, F_66_14, F_66_15, F_66_16, F_66_17, F_66_18, F_66_25, F_66_26, F_66_27, F_66_28, F_66_29, F_66_30, F_66_31, F_66_32, F_66_33, F_66_34, F_66_35, F_66_36, F_66_37, F_66_38, F_66_39, F_66_60, F_66_61, F_66_62, F_66_63, F_66_66, F_66_68, F_66_69, F_66_71, F_66_72, F_66_73, F_66_74, F_66_77, F_66_78, F_66_79, F_66_80, F_66_81, F_66_84, F_66_85, F_66_86, F_66_87]
  exact g
