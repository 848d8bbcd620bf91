/-! leaves -/
def b2i (b : Bool) : Int32 := if b then 1 else 0
theorem b2i_t : b2i true = 1 := rfl
theorem b2i_f : b2i false = 0 := rfl
theorem b2i_01 (b : Bool) : b2i b = 0 ∨ b2i b = 1 := by cases b <;> simp [b2i]
theorem b2i_0 (b : Bool) : (b2i b = 0) = (b = false) := by cases b <;> simp [b2i]
theorem b2i_or (b : Bool) : (b2i b = 0 ∨ b2i b = 1) = True := eq_true (b2i_01 b)
theorem d01 : ((0 : Int32) = 0 ∨ (0 : Int32) = 1) = True := by simp
theorem d11 : ((1 : Int32) = 0 ∨ (1 : Int32) = 1) = True := by simp
theorem s_Na_has {h : MH} {a μ : Nat} {x : Int32} (h1 : kd h a = 4) (h2 : 2 ≤ a) (hμ : 3 < μ) : cal 16 [.ref a, .int x] μ h = some (some (.int (b2i (decide (¬ x < 0 ∧ x < gI h a 1)))), h) := by
  rw [C_16 a x μ h h1 h2 hμ]
  simp only [B_16_0, e_iload_n_1, e_if_lt, e_aload_n_0, G_401, e_ic_ge, e_iconst_1, e_goto, T_16_16, B_16_16, e_iconst_0, e_gotow, T_16_17, B_16_17, R_16, eq_self, true_or, or_true, b2i_or, h1, h2, d01, d11]
  by_cases c1 : x < 0
  · simp [c1, b2i]
  · by_cases c2 : gI h a 1 ≤ x
    · simp [c1, c2, b2i, Int32.not_lt.mpr c2]
    · simp [c1, c2, b2i, Int32.not_le.mp c2]
theorem s_Ta_isLetter {h : MH} {μ : Nat} {x : Int32} (hμ : 3 < μ) : cal 47 [.int x] μ h = some (some (.int (b2i (decide (97 ≤ x ∧ x ≤ 122)))), h) := by
  rw [C_47 x μ h hμ]
  simp only [B_47_0, e_iload_n_0, e_bipush_97, e_ic_lt, e_bipush_122, e_ic_gt, e_iconst_1, e_goto, T_47_16, B_47_16, e_iconst_0, e_gotow, T_47_17, B_47_17, R_47, eq_self, true_or, or_true, b2i_or, d01, d11]
  by_cases c1 : x < 97
  · simp [c1, b2i, Int32.not_le.mpr c1]
  · by_cases c2 : 122 < x
    · simp [c1, c2, b2i, Int32.not_le.mpr c2]
    · simp [c1, c2, b2i, Int32.not_lt.mp c1, Int32.not_lt.mp c2]
