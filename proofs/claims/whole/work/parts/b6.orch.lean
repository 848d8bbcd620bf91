theorem kO1_I {L : LD} {n st : Nat} {k : MH} {a j : Nat} (h : ¬ (a = 66 ∧ (j = 22 ∨ (50 ≤ j ∧ j ≤ 59)))) : gI (kO1 L n st k) a j = gI k a j := by
  unfold kO1
  rw [gI_sI, if_neg (by omega), gI_sI, if_neg (by omega), gI_sI, if_neg (by omega), gI_sI, if_neg (by omega), gI_sI, if_neg (by omega), gI_sI, if_neg (by omega), gI_sI, if_neg (by omega), gI_sI, if_neg (by omega), gI_sI, if_neg (by omega), gI_sI, if_neg (by omega), gI_sI, if_neg (by omega)]
theorem kO1_S {L : LD} {n st : Nat} {k : MH} (hS : St k) : St (kO1 L n st k) := by
  unfold kO1
  simpa only [kd_sI, ln_sI, hl_sI, gL_sI, gR_sI, kd_sL, ln_sL, hl_sL, gI_sL, gR_sL, kd_sR, ln_sR, hl_sR, gI_sR, gL_sR, kd_cpI, ln_cpI, hl_cpI, gL_cpI, gR_cpI, gI_cpI, gI_sI, gL_sL, gR_sR, St_sI, St_sL, St_cpI, Nat.reduceEqDiff, Nat.reduceAdd, eq_self, false_and, and_false, true_and, and_true, and_self, if_true, if_false, false_or, or_false, true_or, or_true, not_true_eq_false, not_false_eq_true, reduceIte] using hS
def WO1 : WL := [(84, none), (66, some 58), (72, none), (73, none), (74, none)]
theorem o_s1 {L : LD} {Fs : Nat → List (Int32 × Int32)} {FA : List (Int32 × Int32)} {am : Bool} {st sd n : Nat} {k : MH} (hS : St k) (hB : SzB L) (h71 : M71 k) (hM : MnR L Fs FA am st sd n k) : ∃ k' l2, rn 209 11 B_209_13 [some (.ref 66), none, none] [] k = rn 209 11 B_209_253 [some (.ref 66), some (.int (nI 0)), l2] [] k' ∧ St k' ∧ (∀ t, t < dT L → gI k' 84 t = nI (dSize L t)) ∧ gI k' 66 58 = nI (dNs L) ∧ (∀ w, w < 13 → gI k' 74 w = gI k 71 w ∧ ∀ m, m ≤ 320 → gI k 71 w = nI m → ∀ s, s < m → gI k' 72 (320 * w + s) = gI k 69 (320 * w + s) ∧ gI k' 73 (320 * w + s) = gI k 70 (320 * w + s)) ∧ Sm (kO1 L n st k) k' WO1 := by
  have hT := hB.1
  have S1 := kO1_S (L := L) (n := n) (st := st) hS
  obtain ⟨k1, a1, a2, a3, a4⟩ := lp_o1 4 0 (kO1 L n st k) (by omega) S1 (fun j hj => absurd hj (by omega))
  have e84 : ∀ t, t < dT L → gI k1 84 t = nI (dSize L t) := fun t ht => by
    rw [a2 t (by omega), kO1_I (by omega)]
    exact hM.2.1 t ht
  have e50 : gI k1 66 50 = nI (dT L) := by
    rw [a4.I rfl]
    unfold kO1
    simp only [kd_sI, ln_sI, hl_sI, gL_sI, gR_sI, kd_sL, ln_sL, hl_sL, gI_sL, gR_sL, kd_sR, ln_sR, hl_sR, gI_sR, gL_sR, kd_cpI, ln_cpI, hl_cpI, gL_cpI, gR_cpI, gI_cpI, gI_sI, gL_sL, gR_sR, St_sI, St_sL, St_cpI, Nat.reduceEqDiff, Nat.reduceAdd, eq_self, false_and, and_false, true_and, and_true, and_self, if_true, if_false, false_or, or_false, true_or, or_true, not_true_eq_false, not_false_eq_true, reduceIte]
  have e58 : gI k1 66 58 = nI (prd L 0) := by
    rw [a4.I rfl]
    unfold kO1
    simp only [kd_sI, ln_sI, hl_sI, gL_sI, gR_sI, kd_sL, ln_sL, hl_sL, gI_sL, gR_sL, kd_sR, ln_sR, hl_sR, gI_sR, gL_sR, kd_cpI, ln_cpI, hl_cpI, gL_cpI, gR_cpI, gI_cpI, gI_sI, gL_sL, gR_sR, St_sI, St_sL, St_cpI, Nat.reduceEqDiff, Nat.reduceAdd, eq_self, false_and, and_false, true_and, and_true, and_self, if_true, if_false, false_or, or_false, true_or, or_true, not_true_eq_false, not_false_eq_true, reduceIte]
    rfl
  obtain ⟨k2, b1, b2, b3, b4⟩ := lp_o2 (dT L) 0 k1 (by omega) hT a3 e50 e84 e58
  have I2 : ∀ {a j : Nat}, (69 ≤ a ∧ a ≤ 71) → gI k2 a j = gI k a j := fun {a j} q => by
    rcases (show a = 69 ∨ a = 70 ∨ a = 71 by omega) with rfl | rfl | rfl <;> rw [b4.I rfl, a4.I rfl, kO1_I (by omega)]
  obtain ⟨k3, l2, c1, c2, c3, c4⟩ := lp_o3 13 0 k2 none (by omega) b3 (fun w hw => by
    obtain ⟨m, m1, m2⟩ := h71 w hw
    exact ⟨m, m1, by rw [I2 (by omega)]; exact m2⟩) (fun w hw => absurd hw (by omega))
  refine ⟨k3, l2, ?_, c3, fun t ht => ?_, ?_, fun w hw => ?_, ((a4.mono (by unfold WO1; simp)).trans (b4.mono (by unfold WO1; simp))).trans (c4.mono (by unfold WO1; simp))⟩
  · rw [o_13 hS hM, a1, o_142 a3, b1, o_173 b3, c1, o_251 c3]
  · rw [c4.I rfl, b4.I rfl]; exact e84 t ht
  · rw [c4.I rfl, b2, prd_e hB]
  · have := c2 w hw
    rw [I2 (by omega)] at this
    refine ⟨this.1, fun m hm e s hs => ?_⟩
    have q := this.2 m hm e s hs
    rw [I2 (by omega), I2 (by omega)] at q
    exact q
