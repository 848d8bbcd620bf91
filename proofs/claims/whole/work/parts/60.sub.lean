/-! subsets of a set, one behind another -/
def sb (s m : Nat) : Prop := s &&& m = s
theorem sb_2 {s m : Nat} : sb s m ↔ (s % 2 ≤ m % 2 ∧ sb (s / 2) (m / 2)) := by
  unfold sb
  have h1 : (s &&& m) / 2 = s / 2 &&& m / 2 := Nat.and_div_two
  have h2 : (s &&& m) % 2 = 1 ↔ s % 2 = 1 ∧ m % 2 = 1 := Nat.and_mod_two_eq_one
  constructor
  · intro h
    rw [h] at h1 h2
    refine ⟨?_, h1.symm⟩
    rcases Nat.mod_two_eq_zero_or_one s with q | q
    · omega
    · have := h2.mp q
      omega
  · rintro ⟨a, b⟩
    rw [b] at h1
    have h3 : (s &&& m) % 2 = s % 2 := by
      rcases Nat.mod_two_eq_zero_or_one s with q | q
      · rcases Nat.mod_two_eq_zero_or_one (s &&& m) with w | w
        · omega
        · have := h2.mp w
          omega
      · rw [q]
        exact h2.mpr ⟨q, by omega⟩
    omega
theorem sb_le {s m : Nat} (h : sb s m) : s ≤ m := by
  unfold sb at h
  rw [← h]
  exact Nat.and_le_right
def nxs : Nat → Nat → Nat → Nat
  | 0, _, _ => 0
  | w + 1, s, m => if m % 2 = 1 ∧ s % 2 = 0 then s + 1 else 2 * nxs w (s / 2) (m / 2)
theorem nxs_sb : ∀ w s m, sb s m → sb (nxs w s m) m
  | 0, s, m, _ => by show 0 &&& m = 0; simp
  | w + 1, s, m, h => by
    obtain ⟨h1, h2⟩ := sb_2.mp h
    unfold nxs
    split
    · rename_i c
      rw [sb_2]
      refine ⟨by omega, ?_⟩
      rw [show (s + 1) / 2 = s / 2 by omega]
      exact h2
    · rw [sb_2]
      refine ⟨by omega, ?_⟩
      rw [show 2 * nxs w (s / 2) (m / 2) / 2 = nxs w (s / 2) (m / 2) by omega]
      exact nxs_sb w _ _ h2
theorem nxs_gt : ∀ w s m, nxs w s m = 0 ∨ s < nxs w s m
  | 0, s, m => Or.inl rfl
  | w + 1, s, m => by
    unfold nxs
    split
    · right; omega
    · rcases nxs_gt w (s / 2) (m / 2) with h | h
      · left; omega
      · right; omega
theorem nxs_gap : ∀ w s m t, m < 2 ^ w → sb s m → sb t m → s < t → nxs w s m ≠ 0 ∧ nxs w s m ≤ t
  | 0, s, m, t, hm, hs, ht, h => by
    have := sb_le hs
    have := sb_le ht
    omega
  | w + 1, s, m, t, hm, hs, ht, h => by
    obtain ⟨h1, h2⟩ := sb_2.mp hs
    obtain ⟨g1, g2⟩ := sb_2.mp ht
    unfold nxs
    split
    · omega
    · rename_i c
      have ih := nxs_gap w (s / 2) (m / 2) (t / 2) (by rw [Nat.pow_succ] at hm; omega) h2 g2 (by omega)
      omega
theorem fil : ∀ w s m, m < 2 ^ w → sb s m → (s + (2 ^ w - 1 - m)) &&& m = s
  | 0, s, m, hm, hs => by
    have := sb_le hs
    obtain rfl : m = 0 := by simpa using hm
    obtain rfl : s = 0 := by omega
    rfl
  | w + 1, s, m, hm, hs => by
    obtain ⟨h1, h2⟩ := sb_2.mp hs
    have hp : 2 ^ (w + 1) = 2 * 2 ^ w := by rw [Nat.pow_succ]; omega
    have hm2 : m / 2 < 2 ^ w := by omega
    have ih := fil w (s / 2) (m / 2) hm2 h2
    have e1 : (s + (2 ^ (w + 1) - 1 - m)) / 2 = s / 2 + (2 ^ w - 1 - m / 2) := by omega
    have a1 : ((s + (2 ^ (w + 1) - 1 - m)) &&& m) / 2 = (s + (2 ^ (w + 1) - 1 - m)) / 2 &&& m / 2 := Nat.and_div_two
    have a2 : ((s + (2 ^ (w + 1) - 1 - m)) &&& m) % 2 = 1 ↔ (s + (2 ^ (w + 1) - 1 - m)) % 2 = 1 ∧ m % 2 = 1 := Nat.and_mod_two_eq_one
    rw [e1, ih] at a1
    have a3 : ((s + (2 ^ (w + 1) - 1 - m)) &&& m) % 2 = s % 2 := by
      rcases Nat.mod_two_eq_zero_or_one s with q | q
      · rcases Nat.mod_two_eq_zero_or_one ((s + (2 ^ (w + 1) - 1 - m)) &&& m) with z | z
        · omega
        · have := a2.mp z
          omega
      · rw [q]
        exact a2.mpr ⟨by omega, by omega⟩
    omega
theorem nxs_val : ∀ w s m, m < 2 ^ w → sb s m → ((s + 2 ^ w - m) % 2 ^ w) &&& m = nxs w s m
  | 0, s, m, hm, hs => by
    obtain rfl : m = 0 := by simpa using hm
    simp [nxs]
  | w + 1, s, m, hm, hs => by
    obtain ⟨h1, h2⟩ := sb_2.mp hs
    have hle := sb_le hs
    have hle2 := sb_le h2
    have hp : 2 ^ (w + 1) = 2 * 2 ^ w := by rw [Nat.pow_succ]; omega
    have hm2 : m / 2 < 2 ^ w := by omega
    unfold nxs
    by_cases c : m % 2 = 1 ∧ s % 2 = 0
    · rw [if_pos c]
      have hlt : s + 2 ^ (w + 1) - m < 2 ^ (w + 1) := by omega
      rw [Nat.mod_eq_of_lt hlt]
      have f := fil w (s / 2) (m / 2) hm2 h2
      have e1 : (s + 2 ^ (w + 1) - m) / 2 = s / 2 + (2 ^ w - 1 - m / 2) := by omega
      have a1 : ((s + 2 ^ (w + 1) - m) &&& m) / 2 = (s + 2 ^ (w + 1) - m) / 2 &&& m / 2 := Nat.and_div_two
      have a2 : ((s + 2 ^ (w + 1) - m) &&& m) % 2 = 1 ↔ (s + 2 ^ (w + 1) - m) % 2 = 1 ∧ m % 2 = 1 := Nat.and_mod_two_eq_one
      rw [e1, f] at a1
      have := a2.mpr ⟨by omega, c.1⟩
      omega
    · rw [if_neg c]
      have ih := nxs_val w (s / 2) (m / 2) hm2 h2
      have e0 : s + 2 ^ (w + 1) - m = 2 * (s / 2 + 2 ^ w - m / 2) := by omega
      rw [e0, hp, Nat.mul_mod_mul_left]
      generalize hx : (s / 2 + 2 ^ w - m / 2) % 2 ^ w = x at ih
      have a1 : (2 * x &&& m) / 2 = 2 * x / 2 &&& m / 2 := Nat.and_div_two
      have a2 : (2 * x &&& m) % 2 = 1 ↔ 2 * x % 2 = 1 ∧ m % 2 = 1 := Nat.and_mod_two_eq_one
      rw [show 2 * x / 2 = x by omega, ih] at a1
      rcases Nat.mod_two_eq_zero_or_one (2 * x &&& m) with z | z
      · omega
      · have := a2.mp z
        omega
theorem s_Se_subsetBehind {h : MH} {s m μ : Nat} (hs : sb s m) (hm : m < 4096) (hμ : 3 < μ) : cal 150 [.int (nI s), .int (nI m)] μ h = some (some (.int (nI (nxs 32 s m))), h) := by
  have hle := sb_le hs
  have e : (nI s - nI m) &&& nI m = nI (nxs 32 s m) := by
    rw [and_nI _ m (by omega), ← nxs_val 32 s m (by omega) hs]
    have : (nI s - nI m).toBitVec.toNat = (s + 2 ^ 32 - m) % 2 ^ 32 := by
      show (BitVec.ofNat 32 s - BitVec.ofNat 32 m).toNat = _
      rw [BitVec.toNat_sub, BitVec.toNat_ofNat, BitVec.toNat_ofNat, Nat.mod_eq_of_lt (show s < 2 ^ 32 by omega), Nat.mod_eq_of_lt (show m < 2 ^ 32 by omega)]
      congr 1
      omega
    rw [this]
  rw [C_150 _ _ μ h hμ]
  simp (disch := first | assumption | exact b2i_01 _ | decide | omega | (simp only [kd_sI, ln_sI, hl_sI, gL_sI, gR_sI, kd_sL, ln_sL, hl_sL, gI_sL, gR_sL, kd_sR, ln_sR, hl_sR, gI_sR, gL_sR, kd_cpI, ln_cpI, hl_cpI, gL_cpI, gR_cpI, gI_cpI, gI_sI, gL_sL, gR_sR, St_sI, St_sL, St_cpI, Nat.reduceEqDiff, Nat.reduceAdd, eq_self, false_and, and_false, true_and, and_true, and_self, if_true, if_false, false_or, or_false, true_or, or_true, not_true_eq_false, not_false_eq_true, reduceIte, K_66, F_66_0, F_66_10, F_66_11, F_66_12, F_66_13, F_66_14, F_66_15, F_66_16, F_66_17, F_66_18, F_66_25, F_66_26, F_66_27, F_66_28, F_66_29, F_66_30, F_66_31, F_66_32, F_66_33, F_66_34, F_66_35, F_66_36, F_66_37, F_66_38, F_66_39, F_66_60, F_66_61, F_66_62, F_66_63, F_66_66, F_66_68, F_66_69, F_66_71, F_66_72, F_66_73, F_66_74, F_66_77, F_66_78, F_66_79, F_66_80, F_66_81, F_66_84, F_66_85, F_66_86, F_66_87, hS, e] <;> first | done | decide | omega | fail) | fail) only [B_150_0, e_iload_n_0, e_iload_n_1, e_isub, e_iand, R_150, kd_sI, ln_sI, hl_sI, gL_sI, gR_sI, kd_sL, ln_sL, hl_sL, gI_sL, gR_sL, kd_sR, ln_sR, hl_sR, gI_sR, gL_sR, kd_cpI, ln_cpI, hl_cpI, gL_cpI, gR_cpI, gI_cpI, gI_sI, gL_sL, gR_sR, St_sI, St_sL, St_cpI, Nat.reduceEqDiff, Nat.reduceAdd, eq_self, false_and, and_false, true_and, and_true, and_self, if_true, if_false, false_or, or_false, true_or, or_true, not_true_eq_false, not_false_eq_true, reduceIte, K_66, F_66_0, F_66_10, F_66_11, F_66_12, F_66_13, F_66_14, F_66_15, F_66_16, F_66_17, F_66_18, F_66_25, F_66_26, F_66_27, F_66_28, F_66_29, F_66_30, F_66_31, F_66_32, F_66_33, F_66_34, F_66_35, F_66_36, F_66_37, F_66_38, F_66_39, F_66_60, F_66_61, F_66_62, F_66_63, F_66_66, F_66_68, F_66_69, F_66_71, F_66_72, F_66_73, F_66_74, F_66_77, F_66_78, F_66_79, F_66_80, F_66_81, F_66_84, F_66_85, F_66_86, F_66_87, e]
/-- one behind another, those that are subsets -/
def rf {σ : Type} (m : Nat) (F : σ → Nat → σ) : Nat → Nat → σ → σ
  | 0, _, x => x
  | k + 1, t, x => rf m F k (t + 1) (if t &&& m = t then F x t else x)
theorem rf_skip {σ : Type} {m : Nat} {F : σ → Nat → σ} : ∀ k a j x, (∀ t, a ≤ t → t < a + k → ¬ sb t m) → rf m F (k + j) a x = rf m F j (a + k) x
  | 0, a, j, x, _ => by rw [Nat.zero_add, Nat.add_zero]
  | k + 1, a, j, x, h => by
    rw [show k + 1 + j = k + j + 1 by omega]
    show rf m F (k + j) (a + 1) (if a &&& m = a then F x a else x) = _
    rw [if_neg (show ¬ (a &&& m = a) from h a (by omega) (by omega)), rf_skip k (a + 1) j x (fun t h1 h2 => h t (by omega) (by omega)), show a + 1 + k = a + (k + 1) by omega]
theorem rf_step {σ : Type} {m : Nat} {F : σ → Nat → σ} {s N : Nat} {x : σ} (hs : sb s m) (hm : m < N) (hN : N ≤ 4096) : rf m F (N - s) s x = if nxs 32 s m = 0 then F x s else rf m F (N - nxs 32 s m) (nxs 32 s m) (F x s) := by
  have hle := sb_le hs
  have e : N - s = (N - s - 1) + 1 := by omega
  rw [e]
  show rf m F (N - s - 1) (s + 1) (if s &&& m = s then F x s else x) = _
  rw [if_pos (show s &&& m = s from hs)]
  by_cases c : nxs 32 s m = 0
  · rw [if_pos c]
    have := rf_skip (m := m) (F := F) (N - s - 1) (s + 1) 0 (F x s) (fun t h1 h2 z => (nxs_gap 32 s m t (by omega) hs z (by omega)).1 c)
    rw [Nat.add_zero] at this
    exact this
  · rw [if_neg c]
    have hg := (nxs_gt 32 s m).resolve_left c
    have hsb := nxs_sb 32 s m hs
    have hl := sb_le hsb
    have := rf_skip (m := m) (F := F) (nxs 32 s m - s - 1) (s + 1) (N - nxs 32 s m) (F x s) (fun t h1 h2 z => by
      have := (nxs_gap 32 s m t (by omega) hs z (by omega)).2
      omega)
    rw [show nxs 32 s m - s - 1 + (N - nxs 32 s m) = N - s - 1 by omega, show s + 1 + (nxs 32 s m - s - 1) = nxs 32 s m by omega] at this
    exact this
theorem sb_int {t m : Nat} (ht : t < 4096) (hm : m < 4096) : (nI t &&& (nI m ^^^ -1) = 0) = (t &&& m = t) := by
  apply propext
  rw [and_z]
  constructor
  · intro h
    apply Nat.eq_of_testBit_eq
    intro i
    rw [Nat.testBit_and]
    rcases Nat.lt_or_ge i 32 with q | q
    · have := h i q
      rw [tbt_xor, tbt_m1 q, tbt_nI, tbt_nI, decide_eq_true q, Bool.true_and, Bool.true_and] at this
      cases a : t.testBit i <;> cases b : m.testBit i <;> simp [a, b] at this ⊢
    · rw [Nat.testBit_lt_two_pow (Nat.lt_of_lt_of_le ht (Nat.le_trans (by decide) (Nat.pow_le_pow_right (by omega) q))), Bool.false_and]
  · intro h i q
    rw [tbt_xor, tbt_m1 q, tbt_nI, tbt_nI, decide_eq_true q, Bool.true_and, Bool.true_and]
    have := congrArg (fun z => z.testBit i) h
    simp only [Nat.testBit_and] at this
    cases a : t.testBit i <;> cases b : m.testBit i <;> simp [a, b] at this ⊢
/-- all of the first n -/
def al (P : Nat → Bool) : Nat → Bool
  | 0 => true
  | i + 1 => al P i && P i
theorem al_f {P : Nat → Bool} {i : Nat} (h : al P i = false) : ∀ d, al P (i + d) = false
  | 0 => h
  | d + 1 => by
    show (al P (i + d) && P (i + d)) = false
    rw [al_f h d, Bool.false_and]
theorem shl_nI {c : Nat} (hc : c ≤ 12) : (1 : Int32) <<< (nI c &&& 31) = nI (2 ^ c) := by
  have : ∀ j : Fin 13, (1 : Int32) <<< (nI j.val &&& 31) = nI (2 ^ j.val) := by decide +kernel
  exact this ⟨c, by omega⟩
