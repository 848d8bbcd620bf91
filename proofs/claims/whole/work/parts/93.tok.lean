/-! tokens of a text, as both sides read them -/
abbrev Txt : Type := Nat × (Nat → Nat)
def bty (x : Txt) (i : Nat) : Nat := if i < x.1 then x.2 i else 256
def pB (c : Nat) : Bool := c == 32 || c == 10
def pL (c : Nat) : Bool := decide (97 ≤ c) && decide (c ≤ 122)
def pD (c : Nat) : Bool := decide (48 ≤ c) && decide (c ≤ 57)
def pG (c : Nat) : Bool := c == 59 || c == 40 || c == 41 || c == 60 || c == 62 || c == 61 || c == 43 || c == 45 || c == 42 || c == 47 || c == 37
def lng (P : Nat → Bool) (x : Txt) : Nat → Nat → Nat
  | 0, i => i
  | f + 1, i => if P (bty x i) = true then lng P x f (i + 1) else i
def wv (x : Txt) (s : Nat) : Nat → Int64
  | 0 => 0
  | m + 1 => (wv x s m <<< ((8 : Int32).toInt64 &&& 63)) ||| (nI (bty x (s + m))).toInt64
def nv (x : Txt) (s : Nat) : Nat → Nat
  | 0 => 0
  | m + 1 => nv x s m * 10 + (bty x (s + m) - 48)
abbrev Tk : Type := Nat × Nat × Nat × Int64 × Nat
abbrev tkK (t : Tk) : Nat := t.1
abbrev tkS (t : Tk) : Nat := t.2.1
abbrev tkV (t : Tk) : Nat := t.2.2.1
abbrev tkW (t : Tk) : Int64 := t.2.2.2.1
abbrev tkE (t : Tk) : Nat := t.2.2.2.2
/-- the token behind the first p bytes: 0 the end, 1 none, 2 a word, 3 a number, 4 a sign -/
def tkn (x : Txt) (p : Nat) : Tk :=
  if bty x (lng pB x 1601 p) = 256 then (0, lng pB x 1601 p, 0, 0, lng pB x 1601 p)
  else if pL (bty x (lng pB x 1601 p)) = true then (if lng pL x 1601 (lng pB x 1601 p) - lng pB x 1601 p ≤ 8 then 2 else 1, lng pB x 1601 p, 0, wv x (lng pB x 1601 p) (lng pL x 1601 (lng pB x 1601 p) - lng pB x 1601 p), lng pL x 1601 (lng pB x 1601 p))
  else if pD (bty x (lng pB x 1601 p)) = true then (if lng pD x 1601 (lng pB x 1601 p) - lng pB x 1601 p ≤ 4 ∧ pL (bty x (lng pD x 1601 (lng pB x 1601 p))) = false then 3 else 1, lng pB x 1601 p, nv x (lng pB x 1601 p) (lng pD x 1601 (lng pB x 1601 p) - lng pB x 1601 p), 0, lng pD x 1601 (lng pB x 1601 p))
  else (if pG (bty x (lng pB x 1601 p)) = true then 4 else 1, lng pB x 1601 p, bty x (lng pB x 1601 p), 0, lng pB x 1601 p + 1)
/-- what both hold of a text -/
def TxB (x : Txt) : Prop := x.1 ≤ 1600 ∧ ∀ i, i < x.1 → x.2 i < 256
theorem bty_le {x : Txt} (hx : TxB x) (i : Nat) : bty x i ≤ 256 := by
  unfold bty
  by_cases c : i < x.1
  · rw [if_pos c]; have := hx.2 i c; omega
  · rw [if_neg c]; omega
theorem bty_256 {x : Txt} (hx : TxB x) {i : Nat} : bty x i = 256 ↔ x.1 ≤ i := by
  unfold bty
  by_cases c : i < x.1
  · rw [if_pos c]; have := hx.2 i c; constructor <;> intro <;> omega
  · rw [if_neg c]; constructor <;> intro <;> omega
def cby (c : Nat) : Int32 := if c = 256 then 0 else (nI c).toInt8.toInt32
def mby (c : Nat) : Int32 := if c = 256 then -1 else nI c
theorem lng_ge (P : Nat → Bool) (x : Txt) : ∀ f i, i ≤ lng P x f i
  | 0, i => Nat.le_refl i
  | f + 1, i => by
    unfold lng
    by_cases c : P (bty x i) = true
    · rw [if_pos c]; have := lng_ge P x f (i + 1); omega
    · rw [if_neg c]; omega
theorem lng_le {P : Nat → Bool} {x : Txt} (hx : TxB x) (hP : P 256 = false) : ∀ f i, i ≤ x.1 → lng P x f i ≤ x.1
  | 0, i, h => h
  | f + 1, i, h => by
    unfold lng
    by_cases c : P (bty x i) = true
    · rw [if_pos c]
      refine lng_le hx hP f (i + 1) ?_
      apply Nat.lt_of_not_le
      intro q
      rw [(bty_256 hx).mpr q, hP] at c
      cases c
    · rw [if_neg c]; exact h
theorem lng_in {P : Nat → Bool} {x : Txt} : ∀ f i j, i ≤ j → j < lng P x f i → P (bty x j) = true
  | 0, i, j, h1, h2 => absurd h2 (by unfold lng; omega)
  | f + 1, i, j, h1, h2 => by
    unfold lng at h2
    by_cases c : P (bty x i) = true
    · rw [if_pos c] at h2
      by_cases q : i = j
      · rw [← q]; exact c
      · exact lng_in f (i + 1) j (by omega) h2
    · rw [if_neg c] at h2; omega
theorem lng_out {P : Nat → Bool} {x : Txt} (hx : TxB x) (hP : P 256 = false) : ∀ f i, x.1 < i + f → P (bty x (lng P x f i)) = false
  | 0, i, h => by
    unfold lng
    rw [(bty_256 hx).mpr (by omega)]; exact hP
  | f + 1, i, h => by
    unfold lng
    by_cases c : P (bty x i) = true
    · rw [if_pos c]; exact lng_out hx hP f (i + 1) (by omega)
    · rw [if_neg c]; simpa using c
theorem lng_pos {P : Nat → Bool} {x : Txt} {f i : Nat} (c : P (bty x i) = true) : i + 1 ≤ lng P x (f + 1) i := by
  unfold lng
  rw [if_pos c]
  exact lng_ge P x f (i + 1)
theorem nv_lt {x : Txt} {s : Nat} : ∀ m, (∀ j, j < m → pD (bty x (s + j)) = true) → nv x s m < 10 ^ m
  | 0, _ => by unfold nv; decide
  | m + 1, h => by
    have ih := nv_lt m (fun j hj => h j (by omega))
    have := h m (by omega)
    unfold pD at this
    simp only [Bool.and_eq_true, decide_eq_true_eq] at this
    unfold nv
    rw [Nat.pow_succ]
    omega
/-! the class's bytes -/
def TpC (x : Txt) (h : MH) : Prop := TxB x ∧ gI h 43 1 = nI x.1 ∧ ∀ i, i < x.1 → gI h 44 i = (nI (x.2 i)).toInt8.toInt32
theorem s_Ta_at {x : Txt} {h : MH} (hS : St h) (hT : TpC x h) {i μ : Nat} (hi : i < 2147483648) (hμ : 3 < μ) : cal 45 [.ref 43, .int (nI i)] μ h = some (some (.int (cby (bty x i))), h) := by
  obtain ⟨⟨x1, x2⟩, t1, t2⟩ := hT
  rw [C_45 43 _ μ _ (K_43 hS) (by decide) hμ]
  unfold bty cby
  by_cases c : i < x.1
  · have b : inBd (nI i) 1600 = true := inBd_nI (by omega) (by omega)
    have t := tc_nI (show i < 2147483648 by omega)
    have := x2 i c
    rw [if_pos c, if_neg (show ¬ x.2 i = 256 by omega), ← t2 i c]
    simp (disch := first | assumption | exact b2i_01 _ | decide | omega | (simp only [kd_sI, ln_sI, hl_sI, gL_sI, gR_sI, kd_sL, ln_sL, hl_sL, gI_sL, gR_sL, kd_sR, ln_sR, hl_sR, gI_sR, gL_sR, kd_cpI, ln_cpI, hl_cpI, gL_cpI, gR_cpI, gI_cpI, gI_sI, gL_sL, gR_sR, St_sI, St_sL, St_cpI, Nat.reduceEqDiff, Nat.reduceAdd, eq_self, false_and, and_false, true_and, and_true, and_self, if_true, if_false, false_or, or_false, true_or, or_true, not_true_eq_false, not_false_eq_true, reduceIte, K_43, F_43_0, K_44, N_44, hS, b, t, t1, nI_nneg hi, (eq_false (by simp (disch := omega) only [nI_lit, nI_add, lt_nI, le_nI, eq_nI] <;> omega) : (nI x.1 ≤ nI i) = False), (eq_false (by simp (disch := omega) only [nI_lit, nI_add, lt_nI, le_nI, eq_nI] <;> omega) : ((1600 : Int32) ≤ nI i) = False)] <;> first | done | decide | omega | fail) | fail) only [B_45_0, e_iload_n_1, e_if_lt, e_aload_n_0, G_901, e_ic_ge, e_sipush_1600, G_900, e_baload_b, e_baload_z, e_goto, T_45_28, B_45_28, e_iconst_0, e_gotow, T_45_29, B_45_29, R_45, kd_sI, ln_sI, hl_sI, gL_sI, gR_sI, kd_sL, ln_sL, hl_sL, gI_sL, gR_sL, kd_sR, ln_sR, hl_sR, gI_sR, gL_sR, kd_cpI, ln_cpI, hl_cpI, gL_cpI, gR_cpI, gI_cpI, gI_sI, gL_sL, gR_sR, St_sI, St_sL, St_cpI, Nat.reduceEqDiff, Nat.reduceAdd, eq_self, false_and, and_false, true_and, and_true, and_self, if_true, if_false, false_or, or_false, true_or, or_true, not_true_eq_false, not_false_eq_true, reduceIte, K_43, F_43_0, K_44, N_44, b, t, t1, nI_nneg hi, (eq_false (by simp (disch := omega) only [nI_lit, nI_add, lt_nI, le_nI, eq_nI] <;> omega) : (nI x.1 ≤ nI i) = False), (eq_false (by simp (disch := omega) only [nI_lit, nI_add, lt_nI, le_nI, eq_nI] <;> omega) : ((1600 : Int32) ≤ nI i) = False)]
  · rw [if_neg c, if_pos rfl]
    simp (disch := first | assumption | exact b2i_01 _ | decide | omega | (simp only [kd_sI, ln_sI, hl_sI, gL_sI, gR_sI, kd_sL, ln_sL, hl_sL, gI_sL, gR_sL, kd_sR, ln_sR, hl_sR, gI_sR, gL_sR, kd_cpI, ln_cpI, hl_cpI, gL_cpI, gR_cpI, gI_cpI, gI_sI, gL_sL, gR_sR, St_sI, St_sL, St_cpI, Nat.reduceEqDiff, Nat.reduceAdd, eq_self, false_and, and_false, true_and, and_true, and_self, if_true, if_false, false_or, or_false, true_or, or_true, not_true_eq_false, not_false_eq_true, reduceIte, K_43, F_43_0, K_44, N_44, hS, t1, nI_nneg hi, (eq_true (by simp (disch := omega) only [nI_lit, nI_add, lt_nI, le_nI, eq_nI] <;> omega) : (nI x.1 ≤ nI i) = True)] <;> first | done | decide | omega | fail) | fail) only [B_45_0, e_iload_n_1, e_if_lt, e_aload_n_0, G_901, e_ic_ge, e_sipush_1600, G_900, e_baload_b, e_baload_z, e_goto, T_45_28, B_45_28, e_iconst_0, e_gotow, T_45_29, B_45_29, R_45, kd_sI, ln_sI, hl_sI, gL_sI, gR_sI, kd_sL, ln_sL, hl_sL, gI_sL, gR_sL, kd_sR, ln_sR, hl_sR, gI_sR, gL_sR, kd_cpI, ln_cpI, hl_cpI, gL_cpI, gR_cpI, gI_cpI, gI_sI, gL_sL, gR_sR, St_sI, St_sL, St_cpI, Nat.reduceEqDiff, Nat.reduceAdd, eq_self, false_and, and_false, true_and, and_true, and_self, if_true, if_false, false_or, or_false, true_or, or_true, not_true_eq_false, not_false_eq_true, reduceIte, K_43, F_43_0, K_44, N_44, t1, nI_nneg hi, (eq_true (by simp (disch := omega) only [nI_lit, nI_add, lt_nI, le_nI, eq_nI] <;> omega) : (nI x.1 ≤ nI i) = True)]
theorem s_Ta_isBlank {c : Nat} {h : MH} (hc : c ≤ 256) {μ : Nat} (hμ : 3 < μ) : cal 46 [.int (cby c)] μ h = some (some (.int (b2i (pB c))), h) := by
  have k : ∀ j : Fin 257, (pB j.val = true → cby j.val = 32 ∨ ¬ cby j.val = 32 ∧ cby j.val = 10) ∧ (pB j.val = false → ¬ cby j.val = 32 ∧ ¬ cby j.val = 10) := by decide +kernel
  obtain ⟨k1, k2⟩ := k ⟨c, by omega⟩
  rw [C_46 _ μ h hμ]
  cases q : pB c with
  | true =>
    rcases k1 q with a | ⟨a, b⟩
    · simp only at a
      simp (disch := first | assumption | exact b2i_01 _ | decide | omega | (simp only [kd_sI, ln_sI, hl_sI, gL_sI, gR_sI, kd_sL, ln_sL, hl_sL, gI_sL, gR_sL, kd_sR, ln_sR, hl_sR, gI_sR, gL_sR, kd_cpI, ln_cpI, hl_cpI, gL_cpI, gR_cpI, gI_cpI, gI_sI, gL_sL, gR_sR, St_sI, St_sL, St_cpI, Nat.reduceEqDiff, Nat.reduceAdd, eq_self, false_and, and_false, true_and, and_true, and_self, if_true, if_false, false_or, or_false, true_or, or_true, not_true_eq_false, not_false_eq_true, reduceIte, K_66, F_66_0, F_66_10, F_66_11, F_66_12, F_66_13, F_66_14, F_66_15, F_66_16, F_66_17, F_66_18, F_66_25, F_66_26, F_66_27, F_66_28, F_66_29, F_66_30, F_66_31, F_66_32, F_66_33, F_66_34, F_66_35, F_66_36, F_66_37, F_66_38, F_66_39, F_66_60, F_66_61, F_66_62, F_66_63, F_66_66, F_66_68, F_66_69, F_66_71, F_66_72, F_66_73, F_66_74, F_66_77, F_66_78, F_66_79, F_66_80, F_66_81, F_66_84, F_66_85, F_66_86, F_66_87, hS, a, b2i_t] <;> first | done | decide | omega | fail) | fail) only [B_46_0, e_iload_n_0, e_bipush_32, e_ic_eq, e_bipush_10, e_ic_ne, e_gotow, T_46_12, B_46_12, e_iconst_1, e_goto, T_46_16, B_46_16, e_iconst_0, T_46_17, B_46_17, R_46, eq_self, true_or, or_true, b2i_or, kd_sI, ln_sI, hl_sI, gL_sI, gR_sI, kd_sL, ln_sL, hl_sL, gI_sL, gR_sL, kd_sR, ln_sR, hl_sR, gI_sR, gL_sR, kd_cpI, ln_cpI, hl_cpI, gL_cpI, gR_cpI, gI_cpI, gI_sI, gL_sL, gR_sR, St_sI, St_sL, St_cpI, Nat.reduceEqDiff, Nat.reduceAdd, eq_self, false_and, and_false, true_and, and_true, and_self, if_true, if_false, false_or, or_false, true_or, or_true, not_true_eq_false, not_false_eq_true, reduceIte, K_66, F_66_0, F_66_10, F_66_11, F_66_12, F_66_13, F_66_14, F_66_15, F_66_16, F_66_17, F_66_18, F_66_25, F_66_26, F_66_27, F_66_28, F_66_29, F_66_30, F_66_31, F_66_32, F_66_33, F_66_34, F_66_35, F_66_36, F_66_37, F_66_38, F_66_39, F_66_60, F_66_61, F_66_62, F_66_63, F_66_66, F_66_68, F_66_69, F_66_71, F_66_72, F_66_73, F_66_74, F_66_77, F_66_78, F_66_79, F_66_80, F_66_81, F_66_84, F_66_85, F_66_86, F_66_87, a, b2i_t]
    · simp only at a b
      rw [b] at a ⊢
      simp (disch := first | assumption | exact b2i_01 _ | decide | omega | (simp only [kd_sI, ln_sI, hl_sI, gL_sI, gR_sI, kd_sL, ln_sL, hl_sL, gI_sL, gR_sL, kd_sR, ln_sR, hl_sR, gI_sR, gL_sR, kd_cpI, ln_cpI, hl_cpI, gL_cpI, gR_cpI, gI_cpI, gI_sI, gL_sL, gR_sR, St_sI, St_sL, St_cpI, Nat.reduceEqDiff, Nat.reduceAdd, eq_self, false_and, and_false, true_and, and_true, and_self, if_true, if_false, false_or, or_false, true_or, or_true, not_true_eq_false, not_false_eq_true, reduceIte, K_66, F_66_0, F_66_10, F_66_11, F_66_12, F_66_13, F_66_14, F_66_15, F_66_16, F_66_17, F_66_18, F_66_25, F_66_26, F_66_27, F_66_28, F_66_29, F_66_30, F_66_31, F_66_32, F_66_33, F_66_34, F_66_35, F_66_36, F_66_37, F_66_38, F_66_39, F_66_60, F_66_61, F_66_62, F_66_63, F_66_66, F_66_68, F_66_69, F_66_71, F_66_72, F_66_73, F_66_74, F_66_77, F_66_78, F_66_79, F_66_80, F_66_81, F_66_84, F_66_85, F_66_86, F_66_87, hS, a, b2i_t] <;> first | done | decide | omega | fail) | fail) only [B_46_0, e_iload_n_0, e_bipush_32, e_ic_eq, e_bipush_10, e_ic_ne, e_gotow, T_46_12, B_46_12, e_iconst_1, e_goto, T_46_16, B_46_16, e_iconst_0, T_46_17, B_46_17, R_46, eq_self, true_or, or_true, b2i_or, kd_sI, ln_sI, hl_sI, gL_sI, gR_sI, kd_sL, ln_sL, hl_sL, gI_sL, gR_sL, kd_sR, ln_sR, hl_sR, gI_sR, gL_sR, kd_cpI, ln_cpI, hl_cpI, gL_cpI, gR_cpI, gI_cpI, gI_sI, gL_sL, gR_sR, St_sI, St_sL, St_cpI, Nat.reduceEqDiff, Nat.reduceAdd, eq_self, false_and, and_false, true_and, and_true, and_self, if_true, if_false, false_or, or_false, true_or, or_true, not_true_eq_false, not_false_eq_true, reduceIte, K_66, F_66_0, F_66_10, F_66_11, F_66_12, F_66_13, F_66_14, F_66_15, F_66_16, F_66_17, F_66_18, F_66_25, F_66_26, F_66_27, F_66_28, F_66_29, F_66_30, F_66_31, F_66_32, F_66_33, F_66_34, F_66_35, F_66_36, F_66_37, F_66_38, F_66_39, F_66_60, F_66_61, F_66_62, F_66_63, F_66_66, F_66_68, F_66_69, F_66_71, F_66_72, F_66_73, F_66_74, F_66_77, F_66_78, F_66_79, F_66_80, F_66_81, F_66_84, F_66_85, F_66_86, F_66_87, a, b2i_t]
  | false =>
    obtain ⟨a, b⟩ := k2 q
    simp only at a b
    simp (disch := first | assumption | exact b2i_01 _ | decide | omega | (simp only [kd_sI, ln_sI, hl_sI, gL_sI, gR_sI, kd_sL, ln_sL, hl_sL, gI_sL, gR_sL, kd_sR, ln_sR, hl_sR, gI_sR, gL_sR, kd_cpI, ln_cpI, hl_cpI, gL_cpI, gR_cpI, gI_cpI, gI_sI, gL_sL, gR_sR, St_sI, St_sL, St_cpI, Nat.reduceEqDiff, Nat.reduceAdd, eq_self, false_and, and_false, true_and, and_true, and_self, if_true, if_false, false_or, or_false, true_or, or_true, not_true_eq_false, not_false_eq_true, reduceIte, K_66, F_66_0, F_66_10, F_66_11, F_66_12, F_66_13, F_66_14, F_66_15, F_66_16, F_66_17, F_66_18, F_66_25, F_66_26, F_66_27, F_66_28, F_66_29, F_66_30, F_66_31, F_66_32, F_66_33, F_66_34, F_66_35, F_66_36, F_66_37, F_66_38, F_66_39, F_66_60, F_66_61, F_66_62, F_66_63, F_66_66, F_66_68, F_66_69, F_66_71, F_66_72, F_66_73, F_66_74, F_66_77, F_66_78, F_66_79, F_66_80, F_66_81, F_66_84, F_66_85, F_66_86, F_66_87, hS, a, b, b2i_f] <;> first | done | decide | omega | fail) | fail) only [B_46_0, e_iload_n_0, e_bipush_32, e_ic_eq, e_bipush_10, e_ic_ne, e_gotow, T_46_12, B_46_12, e_iconst_1, e_goto, T_46_16, B_46_16, e_iconst_0, T_46_17, B_46_17, R_46, eq_self, true_or, or_true, b2i_or, kd_sI, ln_sI, hl_sI, gL_sI, gR_sI, kd_sL, ln_sL, hl_sL, gI_sL, gR_sL, kd_sR, ln_sR, hl_sR, gI_sR, gL_sR, kd_cpI, ln_cpI, hl_cpI, gL_cpI, gR_cpI, gI_cpI, gI_sI, gL_sL, gR_sR, St_sI, St_sL, St_cpI, Nat.reduceEqDiff, Nat.reduceAdd, eq_self, false_and, and_false, true_and, and_true, and_self, if_true, if_false, false_or, or_false, true_or, or_true, not_true_eq_false, not_false_eq_true, reduceIte, K_66, F_66_0, F_66_10, F_66_11, F_66_12, F_66_13, F_66_14, F_66_15, F_66_16, F_66_17, F_66_18, F_66_25, F_66_26, F_66_27, F_66_28, F_66_29, F_66_30, F_66_31, F_66_32, F_66_33, F_66_34, F_66_35, F_66_36, F_66_37, F_66_38, F_66_39, F_66_60, F_66_61, F_66_62, F_66_63, F_66_66, F_66_68, F_66_69, F_66_71, F_66_72, F_66_73, F_66_74, F_66_77, F_66_78, F_66_79, F_66_80, F_66_81, F_66_84, F_66_85, F_66_86, F_66_87, a, b, b2i_f]
theorem s_Ta_isLetr {c : Nat} {h : MH} (hc : c ≤ 256) {μ : Nat} (hμ : 3 < μ) : cal 47 [.int (cby c)] μ h = some (some (.int (b2i (pL c))), h) := by
  have k : ∀ j : Fin 257, (pL j.val = true → ¬ cby j.val < 97 ∧ ¬ 122 < cby j.val) ∧ (pL j.val = false → cby j.val < 97 ∨ ¬ cby j.val < 97 ∧ 122 < cby j.val) := by decide +kernel
  obtain ⟨k1, k2⟩ := k ⟨c, by omega⟩
  rw [C_47 _ μ h hμ]
  cases q : pL c with
  | true =>
    obtain ⟨a, b⟩ := k1 q
    simp only at a b
    simp (disch := first | assumption | exact b2i_01 _ | decide | omega | (simp only [kd_sI, ln_sI, hl_sI, gL_sI, gR_sI, kd_sL, ln_sL, hl_sL, gI_sL, gR_sL, kd_sR, ln_sR, hl_sR, gI_sR, gL_sR, kd_cpI, ln_cpI, hl_cpI, gL_cpI, gR_cpI, gI_cpI, gI_sI, gL_sL, gR_sR, St_sI, St_sL, St_cpI, Nat.reduceEqDiff, Nat.reduceAdd, eq_self, false_and, and_false, true_and, and_true, and_self, if_true, if_false, false_or, or_false, true_or, or_true, not_true_eq_false, not_false_eq_true, reduceIte, K_66, F_66_0, F_66_10, F_66_11, F_66_12, F_66_13, F_66_14, F_66_15, F_66_16, F_66_17, F_66_18, F_66_25, F_66_26, F_66_27, F_66_28, F_66_29, F_66_30, F_66_31, F_66_32, F_66_33, F_66_34, F_66_35, F_66_36, F_66_37, F_66_38, F_66_39, F_66_60, F_66_61, F_66_62, F_66_63, F_66_66, F_66_68, F_66_69, F_66_71, F_66_72, F_66_73, F_66_74, F_66_77, F_66_78, F_66_79, F_66_80, F_66_81, F_66_84, F_66_85, F_66_86, F_66_87, hS, a, b, b2i_t] <;> first | done | decide | omega | fail) | fail) only [B_47_0, e_iload_n_0, e_bipush_97, e_ic_lt, e_bipush_122, e_ic_gt, e_iconst_1, e_goto, T_47_16, B_47_16, e_iconst_0, e_gotow, T_47_17, B_47_17, R_47, eq_self, true_or, or_true, b2i_or, kd_sI, ln_sI, hl_sI, gL_sI, gR_sI, kd_sL, ln_sL, hl_sL, gI_sL, gR_sL, kd_sR, ln_sR, hl_sR, gI_sR, gL_sR, kd_cpI, ln_cpI, hl_cpI, gL_cpI, gR_cpI, gI_cpI, gI_sI, gL_sL, gR_sR, St_sI, St_sL, St_cpI, Nat.reduceEqDiff, Nat.reduceAdd, eq_self, false_and, and_false, true_and, and_true, and_self, if_true, if_false, false_or, or_false, true_or, or_true, not_true_eq_false, not_false_eq_true, reduceIte, K_66, F_66_0, F_66_10, F_66_11, F_66_12, F_66_13, F_66_14, F_66_15, F_66_16, F_66_17, F_66_18, F_66_25, F_66_26, F_66_27, F_66_28, F_66_29, F_66_30, F_66_31, F_66_32, F_66_33, F_66_34, F_66_35, F_66_36, F_66_37, F_66_38, F_66_39, F_66_60, F_66_61, F_66_62, F_66_63, F_66_66, F_66_68, F_66_69, F_66_71, F_66_72, F_66_73, F_66_74, F_66_77, F_66_78, F_66_79, F_66_80, F_66_81, F_66_84, F_66_85, F_66_86, F_66_87, a, b, b2i_t]
  | false =>
    rcases k2 q with a | ⟨a, b⟩
    · simp only at a
      simp (disch := first | assumption | exact b2i_01 _ | decide | omega | (simp only [kd_sI, ln_sI, hl_sI, gL_sI, gR_sI, kd_sL, ln_sL, hl_sL, gI_sL, gR_sL, kd_sR, ln_sR, hl_sR, gI_sR, gL_sR, kd_cpI, ln_cpI, hl_cpI, gL_cpI, gR_cpI, gI_cpI, gI_sI, gL_sL, gR_sR, St_sI, St_sL, St_cpI, Nat.reduceEqDiff, Nat.reduceAdd, eq_self, false_and, and_false, true_and, and_true, and_self, if_true, if_false, false_or, or_false, true_or, or_true, not_true_eq_false, not_false_eq_true, reduceIte, K_66, F_66_0, F_66_10, F_66_11, F_66_12, F_66_13, F_66_14, F_66_15, F_66_16, F_66_17, F_66_18, F_66_25, F_66_26, F_66_27, F_66_28, F_66_29, F_66_30, F_66_31, F_66_32, F_66_33, F_66_34, F_66_35, F_66_36, F_66_37, F_66_38, F_66_39, F_66_60, F_66_61, F_66_62, F_66_63, F_66_66, F_66_68, F_66_69, F_66_71, F_66_72, F_66_73, F_66_74, F_66_77, F_66_78, F_66_79, F_66_80, F_66_81, F_66_84, F_66_85, F_66_86, F_66_87, hS, a, b2i_f] <;> first | done | decide | omega | fail) | fail) only [B_47_0, e_iload_n_0, e_bipush_97, e_ic_lt, e_bipush_122, e_ic_gt, e_iconst_1, e_goto, T_47_16, B_47_16, e_iconst_0, e_gotow, T_47_17, B_47_17, R_47, eq_self, true_or, or_true, b2i_or, kd_sI, ln_sI, hl_sI, gL_sI, gR_sI, kd_sL, ln_sL, hl_sL, gI_sL, gR_sL, kd_sR, ln_sR, hl_sR, gI_sR, gL_sR, kd_cpI, ln_cpI, hl_cpI, gL_cpI, gR_cpI, gI_cpI, gI_sI, gL_sL, gR_sR, St_sI, St_sL, St_cpI, Nat.reduceEqDiff, Nat.reduceAdd, eq_self, false_and, and_false, true_and, and_true, and_self, if_true, if_false, false_or, or_false, true_or, or_true, not_true_eq_false, not_false_eq_true, reduceIte, K_66, F_66_0, F_66_10, F_66_11, F_66_12, F_66_13, F_66_14, F_66_15, F_66_16, F_66_17, F_66_18, F_66_25, F_66_26, F_66_27, F_66_28, F_66_29, F_66_30, F_66_31, F_66_32, F_66_33, F_66_34, F_66_35, F_66_36, F_66_37, F_66_38, F_66_39, F_66_60, F_66_61, F_66_62, F_66_63, F_66_66, F_66_68, F_66_69, F_66_71, F_66_72, F_66_73, F_66_74, F_66_77, F_66_78, F_66_79, F_66_80, F_66_81, F_66_84, F_66_85, F_66_86, F_66_87, a, b2i_f]
    · simp only at a b
      simp (disch := first | assumption | exact b2i_01 _ | decide | omega | (simp only [kd_sI, ln_sI, hl_sI, gL_sI, gR_sI, kd_sL, ln_sL, hl_sL, gI_sL, gR_sL, kd_sR, ln_sR, hl_sR, gI_sR, gL_sR, kd_cpI, ln_cpI, hl_cpI, gL_cpI, gR_cpI, gI_cpI, gI_sI, gL_sL, gR_sR, St_sI, St_sL, St_cpI, Nat.reduceEqDiff, Nat.reduceAdd, eq_self, false_and, and_false, true_and, and_true, and_self, if_true, if_false, false_or, or_false, true_or, or_true, not_true_eq_false, not_false_eq_true, reduceIte, K_66, F_66_0, F_66_10, F_66_11, F_66_12, F_66_13, F_66_14, F_66_15, F_66_16, F_66_17, F_66_18, F_66_25, F_66_26, F_66_27, F_66_28, F_66_29, F_66_30, F_66_31, F_66_32, F_66_33, F_66_34, F_66_35, F_66_36, F_66_37, F_66_38, F_66_39, F_66_60, F_66_61, F_66_62, F_66_63, F_66_66, F_66_68, F_66_69, F_66_71, F_66_72, F_66_73, F_66_74, F_66_77, F_66_78, F_66_79, F_66_80, F_66_81, F_66_84, F_66_85, F_66_86, F_66_87, hS, a, b, b2i_f] <;> first | done | decide | omega | fail) | fail) only [B_47_0, e_iload_n_0, e_bipush_97, e_ic_lt, e_bipush_122, e_ic_gt, e_iconst_1, e_goto, T_47_16, B_47_16, e_iconst_0, e_gotow, T_47_17, B_47_17, R_47, eq_self, true_or, or_true, b2i_or, kd_sI, ln_sI, hl_sI, gL_sI, gR_sI, kd_sL, ln_sL, hl_sL, gI_sL, gR_sL, kd_sR, ln_sR, hl_sR, gI_sR, gL_sR, kd_cpI, ln_cpI, hl_cpI, gL_cpI, gR_cpI, gI_cpI, gI_sI, gL_sL, gR_sR, St_sI, St_sL, St_cpI, Nat.reduceEqDiff, Nat.reduceAdd, eq_self, false_and, and_false, true_and, and_true, and_self, if_true, if_false, false_or, or_false, true_or, or_true, not_true_eq_false, not_false_eq_true, reduceIte, K_66, F_66_0, F_66_10, F_66_11, F_66_12, F_66_13, F_66_14, F_66_15, F_66_16, F_66_17, F_66_18, F_66_25, F_66_26, F_66_27, F_66_28, F_66_29, F_66_30, F_66_31, F_66_32, F_66_33, F_66_34, F_66_35, F_66_36, F_66_37, F_66_38, F_66_39, F_66_60, F_66_61, F_66_62, F_66_63, F_66_66, F_66_68, F_66_69, F_66_71, F_66_72, F_66_73, F_66_74, F_66_77, F_66_78, F_66_79, F_66_80, F_66_81, F_66_84, F_66_85, F_66_86, F_66_87, a, b, b2i_f]
theorem s_Ta_isDigit {c : Nat} {h : MH} (hc : c ≤ 256) {μ : Nat} (hμ : 3 < μ) : cal 49 [.int (cby c)] μ h = some (some (.int (b2i (pD c))), h) := by
  have k : ∀ j : Fin 257, (pD j.val = true → ¬ cby j.val < 48 ∧ ¬ 57 < cby j.val) ∧ (pD j.val = false → cby j.val < 48 ∨ ¬ cby j.val < 48 ∧ 57 < cby j.val) := by decide +kernel
  obtain ⟨k1, k2⟩ := k ⟨c, by omega⟩
  rw [C_49 _ μ h hμ]
  cases q : pD c with
  | true =>
    obtain ⟨a, b⟩ := k1 q
    simp only at a b
    simp (disch := first | assumption | exact b2i_01 _ | decide | omega | (simp only [kd_sI, ln_sI, hl_sI, gL_sI, gR_sI, kd_sL, ln_sL, hl_sL, gI_sL, gR_sL, kd_sR, ln_sR, hl_sR, gI_sR, gL_sR, kd_cpI, ln_cpI, hl_cpI, gL_cpI, gR_cpI, gI_cpI, gI_sI, gL_sL, gR_sR, St_sI, St_sL, St_cpI, Nat.reduceEqDiff, Nat.reduceAdd, eq_self, false_and, and_false, true_and, and_true, and_self, if_true, if_false, false_or, or_false, true_or, or_true, not_true_eq_false, not_false_eq_true, reduceIte, K_66, F_66_0, F_66_10, F_66_11, F_66_12, F_66_13, F_66_14, F_66_15, F_66_16, F_66_17, F_66_18, F_66_25, F_66_26, F_66_27, F_66_28, F_66_29, F_66_30, F_66_31, F_66_32, F_66_33, F_66_34, F_66_35, F_66_36, F_66_37, F_66_38, F_66_39, F_66_60, F_66_61, F_66_62, F_66_63, F_66_66, F_66_68, F_66_69, F_66_71, F_66_72, F_66_73, F_66_74, F_66_77, F_66_78, F_66_79, F_66_80, F_66_81, F_66_84, F_66_85, F_66_86, F_66_87, hS, a, b, b2i_t] <;> first | done | decide | omega | fail) | fail) only [B_49_0, e_iload_n_0, e_bipush_48, e_ic_lt, e_bipush_57, e_ic_gt, e_iconst_1, e_goto, T_49_16, B_49_16, e_iconst_0, e_gotow, T_49_17, B_49_17, R_49, eq_self, true_or, or_true, b2i_or, kd_sI, ln_sI, hl_sI, gL_sI, gR_sI, kd_sL, ln_sL, hl_sL, gI_sL, gR_sL, kd_sR, ln_sR, hl_sR, gI_sR, gL_sR, kd_cpI, ln_cpI, hl_cpI, gL_cpI, gR_cpI, gI_cpI, gI_sI, gL_sL, gR_sR, St_sI, St_sL, St_cpI, Nat.reduceEqDiff, Nat.reduceAdd, eq_self, false_and, and_false, true_and, and_true, and_self, if_true, if_false, false_or, or_false, true_or, or_true, not_true_eq_false, not_false_eq_true, reduceIte, K_66, F_66_0, F_66_10, F_66_11, F_66_12, F_66_13, F_66_14, F_66_15, F_66_16, F_66_17, F_66_18, F_66_25, F_66_26, F_66_27, F_66_28, F_66_29, F_66_30, F_66_31, F_66_32, F_66_33, F_66_34, F_66_35, F_66_36, F_66_37, F_66_38, F_66_39, F_66_60, F_66_61, F_66_62, F_66_63, F_66_66, F_66_68, F_66_69, F_66_71, F_66_72, F_66_73, F_66_74, F_66_77, F_66_78, F_66_79, F_66_80, F_66_81, F_66_84, F_66_85, F_66_86, F_66_87, a, b, b2i_t]
  | false =>
    rcases k2 q with a | ⟨a, b⟩
    · simp only at a
      simp (disch := first | assumption | exact b2i_01 _ | decide | omega | (simp only [kd_sI, ln_sI, hl_sI, gL_sI, gR_sI, kd_sL, ln_sL, hl_sL, gI_sL, gR_sL, kd_sR, ln_sR, hl_sR, gI_sR, gL_sR, kd_cpI, ln_cpI, hl_cpI, gL_cpI, gR_cpI, gI_cpI, gI_sI, gL_sL, gR_sR, St_sI, St_sL, St_cpI, Nat.reduceEqDiff, Nat.reduceAdd, eq_self, false_and, and_false, true_and, and_true, and_self, if_true, if_false, false_or, or_false, true_or, or_true, not_true_eq_false, not_false_eq_true, reduceIte, K_66, F_66_0, F_66_10, F_66_11, F_66_12, F_66_13, F_66_14, F_66_15, F_66_16, F_66_17, F_66_18, F_66_25, F_66_26, F_66_27, F_66_28, F_66_29, F_66_30, F_66_31, F_66_32, F_66_33, F_66_34, F_66_35, F_66_36, F_66_37, F_66_38, F_66_39, F_66_60, F_66_61, F_66_62, F_66_63, F_66_66, F_66_68, F_66_69, F_66_71, F_66_72, F_66_73, F_66_74, F_66_77, F_66_78, F_66_79, F_66_80, F_66_81, F_66_84, F_66_85, F_66_86, F_66_87, hS, a, b2i_f] <;> first | done | decide | omega | fail) | fail) only [B_49_0, e_iload_n_0, e_bipush_48, e_ic_lt, e_bipush_57, e_ic_gt, e_iconst_1, e_goto, T_49_16, B_49_16, e_iconst_0, e_gotow, T_49_17, B_49_17, R_49, eq_self, true_or, or_true, b2i_or, kd_sI, ln_sI, hl_sI, gL_sI, gR_sI, kd_sL, ln_sL, hl_sL, gI_sL, gR_sL, kd_sR, ln_sR, hl_sR, gI_sR, gL_sR, kd_cpI, ln_cpI, hl_cpI, gL_cpI, gR_cpI, gI_cpI, gI_sI, gL_sL, gR_sR, St_sI, St_sL, St_cpI, Nat.reduceEqDiff, Nat.reduceAdd, eq_self, false_and, and_false, true_and, and_true, and_self, if_true, if_false, false_or, or_false, true_or, or_true, not_true_eq_false, not_false_eq_true, reduceIte, K_66, F_66_0, F_66_10, F_66_11, F_66_12, F_66_13, F_66_14, F_66_15, F_66_16, F_66_17, F_66_18, F_66_25, F_66_26, F_66_27, F_66_28, F_66_29, F_66_30, F_66_31, F_66_32, F_66_33, F_66_34, F_66_35, F_66_36, F_66_37, F_66_38, F_66_39, F_66_60, F_66_61, F_66_62, F_66_63, F_66_66, F_66_68, F_66_69, F_66_71, F_66_72, F_66_73, F_66_74, F_66_77, F_66_78, F_66_79, F_66_80, F_66_81, F_66_84, F_66_85, F_66_86, F_66_87, a, b2i_f]
    · simp only at a b
      simp (disch := first | assumption | exact b2i_01 _ | decide | omega | (simp only [kd_sI, ln_sI, hl_sI, gL_sI, gR_sI, kd_sL, ln_sL, hl_sL, gI_sL, gR_sL, kd_sR, ln_sR, hl_sR, gI_sR, gL_sR, kd_cpI, ln_cpI, hl_cpI, gL_cpI, gR_cpI, gI_cpI, gI_sI, gL_sL, gR_sR, St_sI, St_sL, St_cpI, Nat.reduceEqDiff, Nat.reduceAdd, eq_self, false_and, and_false, true_and, and_true, and_self, if_true, if_false, false_or, or_false, true_or, or_true, not_true_eq_false, not_false_eq_true, reduceIte, K_66, F_66_0, F_66_10, F_66_11, F_66_12, F_66_13, F_66_14, F_66_15, F_66_16, F_66_17, F_66_18, F_66_25, F_66_26, F_66_27, F_66_28, F_66_29, F_66_30, F_66_31, F_66_32, F_66_33, F_66_34, F_66_35, F_66_36, F_66_37, F_66_38, F_66_39, F_66_60, F_66_61, F_66_62, F_66_63, F_66_66, F_66_68, F_66_69, F_66_71, F_66_72, F_66_73, F_66_74, F_66_77, F_66_78, F_66_79, F_66_80, F_66_81, F_66_84, F_66_85, F_66_86, F_66_87, hS, a, b, b2i_f] <;> first | done | decide | omega | fail) | fail) only [B_49_0, e_iload_n_0, e_bipush_48, e_ic_lt, e_bipush_57, e_ic_gt, e_iconst_1, e_goto, T_49_16, B_49_16, e_iconst_0, e_gotow, T_49_17, B_49_17, R_49, eq_self, true_or, or_true, b2i_or, kd_sI, ln_sI, hl_sI, gL_sI, gR_sI, kd_sL, ln_sL, hl_sL, gI_sL, gR_sL, kd_sR, ln_sR, hl_sR, gI_sR, gL_sR, kd_cpI, ln_cpI, hl_cpI, gL_cpI, gR_cpI, gI_cpI, gI_sI, gL_sL, gR_sR, St_sI, St_sL, St_cpI, Nat.reduceEqDiff, Nat.reduceAdd, eq_self, false_and, and_false, true_and, and_true, and_self, if_true, if_false, false_or, or_false, true_or, or_true, not_true_eq_false, not_false_eq_true, reduceIte, K_66, F_66_0, F_66_10, F_66_11, F_66_12, F_66_13, F_66_14, F_66_15, F_66_16, F_66_17, F_66_18, F_66_25, F_66_26, F_66_27, F_66_28, F_66_29, F_66_30, F_66_31, F_66_32, F_66_33, F_66_34, F_66_35, F_66_36, F_66_37, F_66_38, F_66_39, F_66_60, F_66_61, F_66_62, F_66_63, F_66_66, F_66_68, F_66_69, F_66_71, F_66_72, F_66_73, F_66_74, F_66_77, F_66_78, F_66_79, F_66_80, F_66_81, F_66_84, F_66_85, F_66_86, F_66_87, a, b, b2i_f]
theorem s_Ta_isSign {c : Nat} {h : MH} (hc : c ≤ 256) {μ : Nat} (hμ : 3 < μ) : cal 52 [.int (cby c)] μ h = some (some (.int (b2i (pG c))), h) := by
  have k : ∀ j : Fin 257, (if (cby j.val).toInt < 37 ∨ 62 < (cby j.val).toInt then some 122 else (#[120, 122, 122, 120, 120, 120, 120, 122, 120, 122, 120, 122, 122, 122, 122, 122, 122, 122, 122, 122, 122, 122, 120, 120, 120, 120] : Array Int)[((cby j.val).toInt - 37).toNat]?) = some (if pG j.val = true then (120 : Int) else 122) := by decide +kernel
  have k := k ⟨c, by omega⟩
  rw [C_52 _ μ h hμ, B_52_0, e_iload_n_0, tsw_at _ k]
  cases q : pG c with
  | true =>
    rw [if_pos rfl]
    simp (disch := first | assumption | exact b2i_01 _ | decide | omega | (simp only [kd_sI, ln_sI, hl_sI, gL_sI, gR_sI, kd_sL, ln_sL, hl_sL, gI_sL, gR_sL, kd_sR, ln_sR, hl_sR, gI_sR, gL_sR, kd_cpI, ln_cpI, hl_cpI, gL_cpI, gR_cpI, gI_cpI, gI_sI, gL_sL, gR_sR, St_sI, St_sL, St_cpI, Nat.reduceEqDiff, Nat.reduceAdd, eq_self, false_and, and_false, true_and, and_true, and_self, if_true, if_false, false_or, or_false, true_or, or_true, not_true_eq_false, not_false_eq_true, reduceIte, K_66, F_66_0, F_66_10, F_66_11, F_66_12, F_66_13, F_66_14, F_66_15, F_66_16, F_66_17, F_66_18, F_66_25, F_66_26, F_66_27, F_66_28, F_66_29, F_66_30, F_66_31, F_66_32, F_66_33, F_66_34, F_66_35, F_66_36, F_66_37, F_66_38, F_66_39, F_66_60, F_66_61, F_66_62, F_66_63, F_66_66, F_66_68, F_66_69, F_66_71, F_66_72, F_66_73, F_66_74, F_66_77, F_66_78, F_66_79, F_66_80, F_66_81, F_66_84, F_66_85, F_66_86, F_66_87, hS, b2i_t] <;> first | done | decide | omega | fail) | fail) only [e_iload_n_0, e_tsw, T_52_120, B_52_120, e_iconst_1, R_52, eq_self, true_or, or_true, b2i_or, T_52_122, B_52_122, e_iconst_0, kd_sI, ln_sI, hl_sI, gL_sI, gR_sI, kd_sL, ln_sL, hl_sL, gI_sL, gR_sL, kd_sR, ln_sR, hl_sR, gI_sR, gL_sR, kd_cpI, ln_cpI, hl_cpI, gL_cpI, gR_cpI, gI_cpI, gI_sI, gL_sL, gR_sR, St_sI, St_sL, St_cpI, Nat.reduceEqDiff, Nat.reduceAdd, eq_self, false_and, and_false, true_and, and_true, and_self, if_true, if_false, false_or, or_false, true_or, or_true, not_true_eq_false, not_false_eq_true, reduceIte, K_66, F_66_0, F_66_10, F_66_11, F_66_12, F_66_13, F_66_14, F_66_15, F_66_16, F_66_17, F_66_18, F_66_25, F_66_26, F_66_27, F_66_28, F_66_29, F_66_30, F_66_31, F_66_32, F_66_33, F_66_34, F_66_35, F_66_36, F_66_37, F_66_38, F_66_39, F_66_60, F_66_61, F_66_62, F_66_63, F_66_66, F_66_68, F_66_69, F_66_71, F_66_72, F_66_73, F_66_74, F_66_77, F_66_78, F_66_79, F_66_80, F_66_81, F_66_84, F_66_85, F_66_86, F_66_87, b2i_t]
  | false =>
    rw [if_neg (by decide)]
    simp (disch := first | assumption | exact b2i_01 _ | decide | omega | (simp only [kd_sI, ln_sI, hl_sI, gL_sI, gR_sI, kd_sL, ln_sL, hl_sL, gI_sL, gR_sL, kd_sR, ln_sR, hl_sR, gI_sR, gL_sR, kd_cpI, ln_cpI, hl_cpI, gL_cpI, gR_cpI, gI_cpI, gI_sI, gL_sL, gR_sR, St_sI, St_sL, St_cpI, Nat.reduceEqDiff, Nat.reduceAdd, eq_self, false_and, and_false, true_and, and_true, and_self, if_true, if_false, false_or, or_false, true_or, or_true, not_true_eq_false, not_false_eq_true, reduceIte, K_66, F_66_0, F_66_10, F_66_11, F_66_12, F_66_13, F_66_14, F_66_15, F_66_16, F_66_17, F_66_18, F_66_25, F_66_26, F_66_27, F_66_28, F_66_29, F_66_30, F_66_31, F_66_32, F_66_33, F_66_34, F_66_35, F_66_36, F_66_37, F_66_38, F_66_39, F_66_60, F_66_61, F_66_62, F_66_63, F_66_66, F_66_68, F_66_69, F_66_71, F_66_72, F_66_73, F_66_74, F_66_77, F_66_78, F_66_79, F_66_80, F_66_81, F_66_84, F_66_85, F_66_86, F_66_87, hS, b2i_f] <;> first | done | decide | omega | fail) | fail) only [e_iload_n_0, e_tsw, T_52_120, B_52_120, e_iconst_1, R_52, eq_self, true_or, or_true, b2i_or, T_52_122, B_52_122, e_iconst_0, kd_sI, ln_sI, hl_sI, gL_sI, gR_sI, kd_sL, ln_sL, hl_sL, gI_sL, gR_sL, kd_sR, ln_sR, hl_sR, gI_sR, gL_sR, kd_cpI, ln_cpI, hl_cpI, gL_cpI, gR_cpI, gI_cpI, gI_sI, gL_sL, gR_sR, St_sI, St_sL, St_cpI, Nat.reduceEqDiff, Nat.reduceAdd, eq_self, false_and, and_false, true_and, and_true, and_self, if_true, if_false, false_or, or_false, true_or, or_true, not_true_eq_false, not_false_eq_true, reduceIte, K_66, F_66_0, F_66_10, F_66_11, F_66_12, F_66_13, F_66_14, F_66_15, F_66_16, F_66_17, F_66_18, F_66_25, F_66_26, F_66_27, F_66_28, F_66_29, F_66_30, F_66_31, F_66_32, F_66_33, F_66_34, F_66_35, F_66_36, F_66_37, F_66_38, F_66_39, F_66_60, F_66_61, F_66_62, F_66_63, F_66_66, F_66_68, F_66_69, F_66_71, F_66_72, F_66_73, F_66_74, F_66_77, F_66_78, F_66_79, F_66_80, F_66_81, F_66_84, F_66_85, F_66_86, F_66_87, b2i_f]
